/** A hall of four HOUSES: their wishes, talks, groups, terms, a row with proofs, and sheets. */
public final class BargainHall {
    public static final int BAD = -1, NOT = -2, FULL = -3, NONE = -4, NULL = -11, CAST = -12, INDEX = -13, SIZE = -14;

    private static final int HOUSES = 4;
    private static final int THINGS = 6;
    private static final int SETS = 1 << THINGS;
    private static final int GROUPS = 1 << HOUSES;
    private static final int MOST_COINS = 9999;
    private static final int MOST_PRICE = 999;
    private static final int MOST_NUMBER = 99;
    private static final int MOST_LEVEL = 999;
    private static final int MOST_DOWN = 99;
    private static final int LAST_HOUR = 9999;
    private static final int EVENTS = 10;
    private static final int MOST_DUE = 999;
    private static final int MOST_WITHIN = 999;
    private static final int SHEETS = 4;
    private static final int LANES = 3;
    private static final int MOST_LEARNT_THINGS = 4;

    /** Where answers below 0 are plain ones, refusals stand so much lower. */
    private static final int LOWER = 10000;
    private static final long SHARE_LOWER = 2147483648L;

    private final House[] houses = new House[HOUSES];
    private final Tape tape = new Tape();
    /** A WISH as it is read: only a sound one reaches its HOUSE. */
    private final Wish draft = new Wish();
    private final Wish guess = new Wish();
    private final int[] guessed = new int[THINGS];
    private final Groups groups = new Groups();
    private final Pair pair;
    private final Pair trial;
    private final Talk talk;
    private final Machine machine = new Machine();
    private final Ledger ledger = new Ledger();
    private final Row theRow = new Row();
    private final Sheet[] sheets = new Sheet[SHEETS];

    public BargainHall() {
        for (int i = 0; i < HOUSES; i++) {
            houses[i] = new House();
        }
        houses[0].things = SETS - 1;
        pair = new Pair(houses[0], houses[1]);
        trial = new Pair(houses[0], houses[1]);
        talk = new Talk(new Pair(houses[0], houses[1]));
        for (int i = 0; i < SHEETS; i++) {
            sheets[i] = new Sheet();
        }
    }

    // ---- 1 wishes

    public int own(int thing, int house) {
        if (!isThing(thing) || !isHouse(house)) {
            return BAD;
        }
        if (talk.isOpen()) {
            return NOT;
        }
        int before = ownerOf(thing);
        houses[before].things &= ~(1 << thing);
        houses[house].things |= 1 << thing;
        return before;
    }

    public int coins(int house, int v) {
        if (!isHouse(house) || !isWithin(v, 0, MOST_COINS)) {
            return BAD;
        }
        if (talk.isOpen()) {
            return NOT;
        }
        int before = houses[house].coins;
        houses[house].coins = v;
        return before;
    }

    public int type(long w, int n) {
        return tape.append(w, n);
    }

    public int wish(int house) {
        if (!isHouse(house)) {
            return BAD;
        }
        if (talk.isOpen()) {
            return NOT;
        }
        int answer = tape.readInto(draft);
        if (answer > 0) {
            houses[house].wish.become(draft);
            groups.forget(house);
        }
        return answer;
    }

    public int worth(int house, int set) {
        if (!isHouse(house) || !isSet(set)) {
            return BAD - LOWER;
        }
        return houses[house].wish.worths[set];
    }

    public int barred(int house, int set) {
        if (!isHouse(house) || !isSet(set)) {
            return BAD;
        }
        return oneIf(houses[house].wish.bars[set]);
    }

    public int told(int house, int what) {
        if (!isHouse(house)) {
            return BAD;
        }
        House h = houses[house];
        switch (what) {
            case 0: return h.things;
            case 1: return h.coins;
            case 2: return h.mandate;
            case 3: return h.start;
            case 4: return h.down;
            case 5: return h.wish.clauses;
            default: return BAD;
        }
    }

    public int set(int house, int what, int v) {
        if (!isHouse(house) || !isWithin(what, 0, 2) || !isWithin(v, 0, what == 2 ? MOST_DOWN : MOST_LEVEL)) {
            return BAD;
        }
        if (talk.isOpen()) {
            return NOT;
        }
        return houses[house].change(what, v);
    }

    public int gain(int a, int b, int set, int price, int which) {
        if (!isExchange(a, b, set, price) || !isWithin(which, 0, 1)) {
            return BAD - LOWER;
        }
        pair.take(houses[a], houses[b]);
        return pair.gained(which, set, price);
    }

    public int good(int a, int b, int set, int price) {
        if (!isExchange(a, b, set, price)) {
            return BAD;
        }
        pair.take(houses[a], houses[b]);
        return oneIf(pair.isGood(set, price));
    }

    public int best(int a, int b, int what) {
        if (!isTwoHouses(a, b) || !isWithin(what, 0, 3)) {
            return BAD - LOWER;
        }
        pair.take(houses[a], houses[b]);
        int set = pair.bestSet();
        if (set < 0) {
            return NONE - LOWER;
        }
        int price = pair.evenPrice(set);
        if (pair.sumOfGains(set) < houses[a].mandate + houses[b].mandate || !isPrice(price) || !pair.isGood(set, price)) {
            return NONE - LOWER;
        }
        switch (what) {
            case 0: return set;
            case 1: return price;
            case 2: return pair.gained(0, set, price);
            default: return pair.gained(1, set, price);
        }
    }

    // ---- 2 talks

    public int talk(int a, int b, int words) {
        if (!isTwoHouses(a, b) || !isWithin(words, 1, Talk.MOST_WORDS)) {
            return BAD;
        }
        if (talk.isOpen()) {
            return NOT;
        }
        talk.began.take(houses[a], houses[b]);
        talk.begin(a, b, words);
        return 1;
    }

    public int talks(int what) {
        switch (what) {
            case 0: return talk.standing;
            case 1: return talk.count;
            case 2: return talk.isOpen() ? talk.partyOf(talk.count) : NONE;
            default: return BAD;
        }
    }

    public int ask(int thing) {
        if (!isThing(thing)) {
            return BAD;
        }
        if (!talk.isOpen() || ownerOf(thing) != talk.partyOf(talk.count + 1)) {
            return NOT;
        }
        talk.add(Talk.ASK, 0, 0);
        return 1;
    }

    public int offer(int set, int price) {
        if (!talk.isOpen()) {
            return NOT;
        }
        if (!isExchange(talk.a, talk.b, set, price)) {
            return BAD;
        }
        int kind = talk.offerKind(talk.count);
        talk.add(kind, set, price);
        return kind;
    }

    public int yes() {
        int place = talk.count;
        if (!talk.isOpen() || !talk.suits(talk.began, place, houses[talk.partyOf(place)].mandate)) {
            return NOT - LOWER;
        }
        agree();
        return talk.began.gained(talk.sideAt(place), talk.setAt(place - 1), talk.priceAt(place - 1));
    }

    public int walk() {
        if (!talk.isOpen()) {
            return NOT;
        }
        talk.add(Talk.WALK, 0, 0);
        return talk.count;
    }

    public int says() {
        if (!talk.isOpen()) {
            return NOT;
        }
        return letMachineSpeak();
    }

    public int runs() {
        if (!talk.isOpen()) {
            return NOT;
        }
        for (int i = 0; i < Talk.MOST_WORDS && talk.isOpen(); i++) {
            letMachineSpeak();
        }
        return talk.standing;
    }

    public int word(int i, int what) {
        if (!talk.hasWord(i) || !isWithin(what, 0, 1)) {
            return BAD;
        }
        return what == 0 ? talk.kindAt(i) : talk.partyOf(i);
    }

    public int offered(int i, int what) {
        if (!talk.hasWord(i) || !isWithin(what, 0, 1)) {
            return BAD - LOWER;
        }
        if (!talk.isOffer(i)) {
            return CAST - LOWER;
        }
        return what == 0 ? talk.setAt(i) : talk.priceAt(i);
    }

    public int learnt(int house, int n) {
        if (!isHouse(house) || n < 0) {
            return BAD;
        }
        if (talk.standing == Talk.NEVER) {
            return NOT;
        }
        if (house != talk.a && house != talk.b) {
            return BAD;
        }
        int side = house == talk.a ? 0 : 1;
        int said = talk.saidBy(side);
        if (n > said) {
            return BAD;
        }
        if (Integer.bitCount(talk.began.pool()) > MOST_LEARNT_THINGS) {
            return NOT;
        }
        return countGuesses(house, side, n == 0 ? said : n);
    }

    // ---- 3 groups

    public int value(int group) {
        if (!isWithin(group, 1, GROUPS - 1)) {
            return BAD - LOWER;
        }
        int value = groups.valueOf(houses, group);
        return value == Groups.NO_VALUE ? NONE - LOWER : value;
    }

    public int unrest() {
        int most = 0;
        for (int group = 1; group < GROUPS; group++) {
            most = Math.max(most, groups.betterBy(houses, group));
        }
        return most;
    }

    public int leaves() {
        for (int group = 1; group < GROUPS; group++) {
            if (groups.betterBy(houses, group) > 0) {
                return group;
            }
        }
        return NONE;
    }

    public long share(int house) {
        if (!isHouse(house)) {
            return BAD - SHARE_LOWER;
        }
        return groups.shareOf(houses, house);
    }

    public int envy() {
        for (int i = 0; i < HOUSES; i++) {
            for (int j = 0; j < HOUSES; j++) {
                if (houses[i].wouldRather(houses[j].things)) {
                    return 10 * i + j;
                }
            }
        }
        return NONE;
    }

    // ---- 4 terms

    public int due(int a, int b, int coins, int by) {
        if (!isDebt(a, b, coins) || !isHour(by)) {
            return BAD;
        }
        return ledger.add(Ledger.DUE, a, b, coins, by, 0);
    }

    public int when(int a, int b, int coins, int event, int n) {
        if (!isDebt(a, b, coins) || !isEvent(event) || !isWithin(n, 0, MOST_WITHIN)) {
            return BAD;
        }
        return ledger.add(Ledger.IF, a, b, coins, event, n);
    }

    public int mend(int a, int b, int coins, int term, int n) {
        if (!isDebt(a, b, coins) || !ledger.hasTerm(term) || !isWithin(n, 0, MOST_WITHIN)) {
            return BAD;
        }
        return ledger.add(Ledger.MEND, a, b, coins, term, n);
    }

    public int bar(int a, int event) {
        if (!isHouse(a) || !isEvent(event)) {
            return BAD;
        }
        return ledger.add(Ledger.BAR, a, a, 0, event, 0);
    }

    public int happen(int event, int hour, int known) {
        if (!isEvent(event) || !isHour(hour) || !isHour(known) || known < hour) {
            return BAD;
        }
        if (ledger.hasHappened(event)) {
            return NOT;
        }
        ledger.record(event, hour, known);
        return 1;
    }

    public int pay(int term, int hour) {
        if (!ledger.hasTerm(term) || !isHour(hour)) {
            return BAD;
        }
        if (ledger.isBar(term)) {
            return CAST;
        }
        Term t = ledger.terms[term];
        House payer = houses[t.payer];
        House taker = houses[t.taker];
        if (t.isPaid() || payer.coins < t.coins || taker.coins + t.coins > MOST_COINS || talk.isOpen()) {
            return NOT;
        }
        payer.coins -= t.coins;
        taker.coins += t.coins;
        t.paid = hour;
        return taker.coins;
    }

    public int state(int term, int hour) {
        if (!ledger.hasTerm(term) || !isHour(hour)) {
            return BAD;
        }
        ledger.settle(hour);
        return ledger.stateOf(term, hour);
    }

    public int end(int term, int hour) {
        if (!ledger.hasTerm(term) || !isHour(hour)) {
            return BAD;
        }
        if (ledger.isBar(term)) {
            return CAST;
        }
        ledger.settle(hour);
        return ledger.ends[term];
    }

    public int owes(int house, int hour) {
        if (!isHouse(house) || !isHour(hour)) {
            return BAD;
        }
        ledger.settle(hour);
        return ledger.owedBy(house, hour);
    }

    // ---- 5 rows

    public int row(int i, int v) {
        if (!isWithin(i, 0, Row.LENGTH - 1) || !isWithin(v, 0, Row.MOST)) {
            return BAD;
        }
        return theRow.put(i, v);
    }

    public int root() {
        return theRow.nodes[1];
    }

    public int proof(int i, int j) {
        if (!isWithin(i, 0, Row.LENGTH - 1) || !isWithin(j, 0, Row.STEPS - 1)) {
            return BAD;
        }
        return theRow.beside(i, j);
    }

    public int proves(int i, int v, int x, int y, int z) {
        if (!isWithin(i, 0, Row.LENGTH - 1) || !isSum(v) || !isSum(x) || !isSum(y) || !isSum(z)) {
            return BAD;
        }
        int sum = Row.climb(i, v, x);
        sum = Row.climb(i >> 1, sum, y);
        sum = Row.climb(i >> 2, sum, z);
        return oneIf(sum == theRow.nodes[1]);
    }

    // ---- 6 sheets

    public int sheet(int sheet, int lane, int n) {
        if (!isSheet(sheet) || !isLane(lane) || n > Sheet.MOST_ITEMS) {
            return BAD;
        }
        if (n < 0) {
            return SIZE;
        }
        sheets[sheet].renew(lane, n);
        return n;
    }

    public int drop(int sheet) {
        if (!isSheet(sheet)) {
            return BAD;
        }
        if (sheets[sheet].isMissing()) {
            return NULL;
        }
        return sheets[sheet].lose();
    }

    public int item(int sheet, int lane, int i, int v) {
        if (!isSheet(sheet) || !isLane(lane)) {
            return BAD;
        }
        int refusal = sheets[sheet].refusal(lane, i, 1);
        if (refusal < 0) {
            return refusal;
        }
        sheets[sheet].put(i, v);
        return 1;
    }

    public int wishes(int house, int sheet, int lane, int from) {
        if (!isHouse(house) || !isSheet(sheet) || !isLane(lane)) {
            return BAD;
        }
        if (talk.isOpen()) {
            return NOT;
        }
        int refusal = sheets[sheet].refusal(lane, from, THINGS);
        if (refusal < 0) {
            return refusal;
        }
        if (!sheets[sheet].areWithin(from, THINGS, MOST_NUMBER)) {
            return NOT;
        }
        houses[house].wish.tellAlone(sheets[sheet].items, from);
        groups.forget(house);
        return THINGS;
    }

    // ---- what numbers may be

    private static boolean isWithin(int v, int least, int most) {
        return v >= least && v <= most;
    }

    private static boolean isHouse(int house) {
        return isWithin(house, 0, HOUSES - 1);
    }

    private static boolean isTwoHouses(int a, int b) {
        return isHouse(a) && isHouse(b) && a != b;
    }

    private static boolean isThing(int thing) {
        return isWithin(thing, 0, THINGS - 1);
    }

    private static boolean isSet(int set) {
        return isWithin(set, 0, SETS - 1);
    }

    private static boolean isPrice(int price) {
        return isWithin(price, -MOST_PRICE, MOST_PRICE);
    }

    private static boolean isHour(int hour) {
        return isWithin(hour, 0, LAST_HOUR);
    }

    private static boolean isEvent(int event) {
        return isWithin(event, 0, EVENTS - 1);
    }

    private static boolean isDebt(int a, int b, int coins) {
        return isTwoHouses(a, b) && isWithin(coins, 1, MOST_DUE);
    }

    private static boolean isSum(int v) {
        return isWithin(v, 0, Row.MODULUS - 1);
    }

    private static boolean isSheet(int sheet) {
        return isWithin(sheet, 0, SHEETS - 1);
    }

    private static boolean isLane(int lane) {
        return isWithin(lane, 0, LANES - 1);
    }

    private boolean isExchange(int a, int b, int set, int price) {
        return isTwoHouses(a, b) && isSet(set) && isPrice(price)
                && (set & ~(houses[a].things | houses[b].things)) == 0;
    }

    private static boolean hasBit(int bits, int i) {
        return (bits >> i & 1) == 1;
    }

    private static int oneIf(boolean holds) {
        return holds ? 1 : 0;
    }

    // ---- what several calls do

    private int ownerOf(int thing) {
        int owner = 0;
        for (int i = 1; i < HOUSES; i++) {
            if (hasBit(houses[i].things, thing)) {
                owner = i;
            }
        }
        return owner;
    }

    /** The latest OFFER is carried out: only behind a test that it suits the one whose turn it is. */
    private void agree() {
        int set = talk.setAt(talk.count - 1);
        int price = talk.priceAt(talk.count - 1);
        House a = houses[talk.a];
        House b = houses[talk.b];
        a.things ^= set;
        b.things ^= set;
        a.coins -= price;
        b.coins += price;
        talk.add(Talk.YES, 0, 0);
    }

    private int letMachineSpeak() {
        int place = talk.count;
        machine.rank(talk.began, talk.sideAt(place));
        machine.choose(talk.began, houses[talk.partyOf(place)], talk, place);
        if (machine.kind == Talk.YES) {
            agree();
        } else {
            talk.add(machine.kind, machine.set, machine.price);
        }
        return machine.kind;
    }

    private int countGuesses(int house, int side, int words) {
        int pool = talk.began.pool();
        int all = 1;
        for (int thing = 0; thing < THINGS; thing++) {
            all *= hasBit(pool, thing) ? 3 : 1;
        }
        trial.suppose(talk.began, side, guess);
        int count = 0;
        for (int code = 0; code < all; code++) {
            makeGuess(pool, code);
            count += wouldHaveSaid(houses[house], side, words) ? 1 : 0;
        }
        return count;
    }

    /** The digits of the code to the base 3 tell what each THING of the pool is worth. */
    private void makeGuess(int pool, int code) {
        int rest = code;
        for (int thing = 0; thing < THINGS; thing++) {
            guessed[thing] = 0;
            if (hasBit(pool, thing)) {
                guessed[thing] = 10 * (rest % 3);
                rest /= 3;
            }
        }
        guess.tellAlone(guessed, 0);
    }

    private boolean wouldHaveSaid(House house, int side, int words) {
        machine.rank(trial, side);
        for (int k = 0; k < words; k++) {
            int place = 2 * k + side;
            machine.choose(trial, house, talk, place);
            if (!talk.isWord(place, machine.kind, machine.set, machine.price)) {
                return false;
            }
        }
        return true;
    }

    /** A WISH, reckoned for every set as it is told, so that no later call goes through CLAUSES. */
    private static final class Wish {
        int clauses;
        final int[] worths = new int[SETS];
        final boolean[] bars = new boolean[SETS];

        void clear() {
            clauses = 0;
            for (int set = 0; set < SETS; set++) {
                worths[set] = 0;
                bars[set] = false;
            }
        }

        void addNumber(int letters, int number) {
            clauses++;
            for (int set = 0; set < SETS; set++) {
                if ((set & letters) == letters) {
                    worths[set] += number;
                }
            }
        }

        void addBar(int letters) {
            clauses++;
            for (int set = 0; set < SETS; set++) {
                if ((set & letters) == letters) {
                    bars[set] = true;
                }
            }
        }

        void become(Wish other) {
            clauses = other.clauses;
            for (int set = 0; set < SETS; set++) {
                worths[set] = other.worths[set];
                bars[set] = other.bars[set];
            }
        }

        /** A number for each THING alone, from a place of a row on that has as many behind it. */
        void tellAlone(int[] numbers, int from) {
            clear();
            if (from < 0 || from > numbers.length - THINGS) {
                return;
            }
            clauses = THINGS;
            for (int set = 1; set < SETS; set++) {
                int lowest = Integer.numberOfTrailingZeros(set);
                worths[set] = worths[set & (set - 1)] + numbers[from + lowest];
            }
        }
    }

    private static final class House {
        int things;
        int coins = 1000;
        int mandate;
        int start = 100;
        int down = 10;
        final Wish wish = new Wish();

        int change(int what, int v) {
            int before;
            if (what == 0) {
                before = mandate;
                mandate = v;
            } else if (what == 1) {
                before = start;
                start = v;
            } else {
                before = down;
                down = v;
            }
            return before;
        }

        int levelAt(int k) {
            return Math.max(start - k * down, mandate);
        }

        boolean wouldRather(int other) {
            return !wish.bars[other] && wish.worths[things] < wish.worths[other];
        }
    }

    /** THE TAPE, and the reading of it as a WISH. */
    private static final class Tape {
        static final int MOST_BYTES = 90;
        static final int MOST_CLAUSES = 12;
        static final int FAULT = -20;
        static final int BLANK = 32;
        static final int LAST_BYTE = 126;
        /** Stands behind the last byte; no byte is like it. */
        static final int END = -1;

        private final int[] bytes = new int[MOST_BYTES];
        private int size;
        private int place;

        int append(long w, int n) {
            if (!isWithin(n, 1, 8)) {
                return BAD;
            }
            for (int i = 0; i < n; i++) {
                if (!isWithin(byteOf(w, i), BLANK, LAST_BYTE)) {
                    return BAD;
                }
            }
            if (size + n > MOST_BYTES) {
                return FULL;
            }
            for (int i = n - 1; i >= 0; i--) {
                bytes[size] = byteOf(w, i);
                size++;
            }
            return size;
        }

        private static int byteOf(long w, int i) {
            return (int) (w >>> (8 * i)) & 255;
        }

        /** How many CLAUSES, or a FAULT; THE TAPE is empty then. */
        int readInto(Wish draft) {
            draft.clear();
            place = 0;
            int answer = readClauses(draft);
            size = 0;
            return answer;
        }

        private int readClauses(Wish draft) {
            for (int i = 1; i <= MOST_CLAUSES; i++) {
                int fault = readClause(draft);
                if (fault < 0) {
                    return fault;
                }
                if (next() != ';' || i == MOST_CLAUSES) {
                    break;
                }
                place++;
            }
            return next() == END ? draft.clauses : faultAt(place);
        }

        private int readClause(Wish draft) {
            boolean isBar = next() == '!';
            if (isBar) {
                place++;
            }
            int letters = readLetters();
            if (letters == 0) {
                return faultAt(place);
            }
            if (isBar) {
                draft.addBar(letters);
                return 0;
            }
            return readNumber(draft, letters);
        }

        private int readLetters() {
            int letters = 0;
            for (int i = 0; i < THINGS; i++) {
                int letter = letterBit(next());
                // a letter that does not rise is below all that stand ahead of it together
                if (letter <= letters) {
                    break;
                }
                letters |= letter;
                place++;
            }
            return letters;
        }

        private int readNumber(Wish draft, int letters) {
            boolean isLess = next() == '-';
            if (isLess) {
                place++;
            }
            if (!isDigit(next())) {
                return faultAt(place);
            }
            int first = place;
            int number = 0;
            while (place < size && isDigit(bytes[place])) {
                // once beyond, it stays there: a long number must not come round to a small one
                number = Math.min(10 * number + bytes[place] - '0', MOST_NUMBER + 1);
                place++;
            }
            if (number > MOST_NUMBER) {
                return faultAt(first);
            }
            draft.addNumber(letters, isLess ? -number : number);
            return 0;
        }

        /** The byte at the place, which goes on behind blanks first. */
        private int next() {
            while (place < size && bytes[place] == BLANK) {
                place++;
            }
            return place < size ? bytes[place] : END;
        }

        private static int faultAt(int place) {
            return FAULT - place;
        }

        private static boolean isDigit(int c) {
            return c >= '0' && c <= '9';
        }

        private static int letterBit(int c) {
            return c >= 'a' && c < 'a' + THINGS ? 1 << (c - 'a') : 0;
        }
    }

    /** Two sides of an EXCHANGE, a (0) and b (1): what they had at one moment, and their WISHES as they are. */
    private static final class Pair {
        private int thingsA;
        private int thingsB;
        private int coinsA;
        private int coinsB;
        private Wish wishA;
        private Wish wishB;

        Pair(House a, House b) {
            take(a, b);
        }

        void take(House a, House b) {
            thingsA = a.things;
            thingsB = b.things;
            coinsA = a.coins;
            coinsB = b.coins;
            wishA = a.wish;
            wishB = b.wish;
        }

        /** The same as another pair, but for the WISH of one side. */
        void suppose(Pair other, int side, Wish wish) {
            thingsA = other.thingsA;
            thingsB = other.thingsB;
            coinsA = other.coinsA;
            coinsB = other.coinsB;
            wishA = side == 0 ? wish : other.wishA;
            wishB = side == 0 ? other.wishB : wish;
        }

        int pool() {
            return thingsA | thingsB;
        }

        boolean isInPool(int set) {
            return (set & ~pool()) == 0;
        }

        boolean isBarredTo(int side, int set) {
            return side == 0 ? wishA.bars[thingsA ^ set] : wishB.bars[thingsB ^ set];
        }

        int worthThen(int side, int set) {
            return side == 0 ? wishA.worths[thingsA ^ set] : wishB.worths[thingsB ^ set];
        }

        int gained(int side, int set, int price) {
            int more = worthThen(side, set) - worthThen(side, 0);
            return side == 0 ? more - price : more + price;
        }

        /** The PRICE by which a side's GAIN is so much. */
        int priceFor(int side, int set, int gain) {
            int over = gained(side, set, 0) - gain;
            return side == 0 ? over : -over;
        }

        int sumOfGains(int set) {
            return gained(0, set, 0) + gained(1, set, 0);
        }

        int evenPrice(int set) {
            return (gained(0, set, 0) - gained(1, set, 0)) / 2;
        }

        private boolean isOpenToBoth(int set) {
            return !wishA.bars[thingsA ^ set] && !wishB.bars[thingsB ^ set];
        }

        boolean isGood(int set, int price) {
            return isOpenToBoth(set)
                    && isWithin(coinsA - price, 0, MOST_COINS) && isWithin(coinsB + price, 0, MOST_COINS);
        }

        /** The set with the greatest sum of GAINS; below 0, if each has a bar. */
        int bestSet() {
            int found = -1;
            int most = 0;
            for (int set = 0; set < SETS; set++) {
                if (isInPool(set) && isOpenToBoth(set) && (found < 0 || sumOfGains(set) > most)) {
                    found = set;
                    most = sumOfGains(set);
                }
            }
            return found;
        }
    }

    /** The latest TALK. a and b speak by turns, so a WORD's place tells whose it is. */
    private static final class Talk {
        static final int MOST_WORDS = 20;
        static final int NEVER = 0, OPEN = 1, AGREED = 2, LEFT = 3, OVER = 4;
        static final int ASK = 0, OFFER = 1, COUNTER = 2, YES = 3, WALK = 4;

        int standing = NEVER;
        int a;
        int b = 1;
        int count;
        private int most;
        final Pair began;
        private final int[] kinds = new int[MOST_WORDS];
        private final int[] sets = new int[MOST_WORDS];
        private final int[] prices = new int[MOST_WORDS];

        Talk(Pair began) {
            this.began = began;
        }

        void begin(int first, int second, int words) {
            a = first;
            b = second;
            most = words;
            count = 0;
            standing = OPEN;
        }

        boolean isOpen() {
            return standing == OPEN;
        }

        int sideAt(int place) {
            return place & 1;
        }

        int partyOf(int place) {
            return sideAt(place) == 0 ? a : b;
        }

        int saidBy(int side) {
            return side == 0 ? (count + 1) / 2 : count / 2;
        }

        boolean hasWord(int i) {
            return i >= 0 && i < count && i < MOST_WORDS;
        }

        int kindAt(int i) {
            return hasWord(i) ? kinds[i] : NONE;
        }

        int setAt(int i) {
            return hasWord(i) ? sets[i] : 0;
        }

        int priceAt(int i) {
            return hasWord(i) ? prices[i] : 0;
        }

        boolean isOffer(int i) {
            return hasWord(i) && (kinds[i] == OFFER || kinds[i] == COUNTER);
        }

        boolean isWord(int i, int kind, int set, int price) {
            return hasWord(i) && kinds[i] == kind && sets[i] == set && prices[i] == price;
        }

        int offerKind(int place) {
            return isOffer(place - 1) ? COUNTER : OFFER;
        }

        /** Whether the WORD ahead of a place is an OFFER to say YES to, with no less GAIN than the least. */
        boolean suits(Pair pair, int place, int least) {
            int ahead = place - 1;
            return isOffer(ahead) && pair.isGood(setAt(ahead), priceAt(ahead))
                    && pair.gained(sideAt(place), setAt(ahead), priceAt(ahead)) >= least;
        }

        void add(int kind, int set, int price) {
            if (!isOpen() || count < 0 || count >= MOST_WORDS) {
                return;
            }
            kinds[count] = kind;
            sets[count] = set;
            prices[count] = price;
            count++;
            if (kind == YES) {
                standing = AGREED;
            } else if (kind == WALK) {
                standing = LEFT;
            } else if (count >= most) {
                standing = OVER;
            }
        }
    }

    /** A MACHINE, and the WORD that it chose last. */
    private static final class Machine {
        int kind;
        int set;
        int price;
        private final int[] ranked = new int[SETS];
        private int count;

        /** EXCHANGES that are not BARRED to a side, by its WORTH then; of like ones the least set stays first. */
        void rank(Pair pair, int side) {
            count = 0;
            for (int next = 0; next < SETS; next++) {
                if (pair.isInPool(next) && !pair.isBarredTo(side, next)) {
                    insert(pair, side, next);
                }
            }
        }

        private void insert(Pair pair, int side, int next) {
            if (count >= SETS) {
                return;
            }
            int worth = pair.worthThen(side, next);
            int at = count;
            while (at > 0 && pair.worthThen(side, ranked[at - 1]) < worth) {
                ranked[at] = ranked[at - 1];
                at--;
            }
            ranked[at] = next;
            count++;
        }

        /** The WORD at a place of a TALK, of the side that was ranked, by the HOUSE's LEVEL there. */
        void choose(Pair pair, House house, Talk talk, int place) {
            int k = place / 2;
            int level = house.levelAt(k);
            set = 0;
            price = 0;
            // a LEVEL is never below the MANDATE, so what comes up to it may be agreed to
            if (talk.suits(pair, place, level)) {
                kind = Talk.YES;
                return;
            }
            kind = Talk.WALK;
            if (count <= 0 || k < 0) {
                return;
            }
            int wanted = ranked[k % count];
            int wantedPrice = pair.priceFor(talk.sideAt(place), wanted, level);
            if (isPrice(wantedPrice)) {
                kind = talk.offerKind(place);
                set = wanted;
                price = wantedPrice;
            }
        }
    }

    /** VALUES: for every group and every set of THINGS the greatest sum, reckoned anew only behind a new WISH. */
    private static final class Groups {
        static final int NO_VALUE = -1000000;
        /** How many of the 24 orders have just these so many ahead of one HOUSE. */
        private static final int[] ORDERS = {6, 2, 2, 6};

        private final int[][] sums = new int[GROUPS][SETS];
        /** HOUSES (bits) whose WISH is newer than the sums. */
        private int stale;

        void forget(int house) {
            stale |= 1 << house;
        }

        /** A group's VALUE, or NO_VALUE. */
        int valueOf(House[] houses, int group) {
            renew(houses);
            return sums[group][thingsOf(houses, group)];
        }

        /** By how much a group would do better by itself: 0 or below, if it would not. */
        int betterBy(House[] houses, int group) {
            int value = valueOf(houses, group);
            if (value == NO_VALUE) {
                return 0;
            }
            for (int i = 0; i < HOUSES; i++) {
                if (hasBit(group, i)) {
                    value -= houses[i].wish.worths[houses[i].things];
                }
            }
            return value;
        }

        long shareOf(House[] houses, int house) {
            long sum = 0;
            int self = 1 << house;
            for (int ahead = 0; ahead < GROUPS; ahead++) {
                if ((ahead & self) == 0) {
                    int more = valueOrZero(houses, ahead | self) - valueOrZero(houses, ahead);
                    sum += (long) ordersWith(Integer.bitCount(ahead)) * more;
                }
            }
            return sum;
        }

        private static int ordersWith(int ahead) {
            return ahead >= 0 && ahead < ORDERS.length ? ORDERS[ahead] : 0;
        }

        private int valueOrZero(House[] houses, int group) {
            int value = group == 0 ? NO_VALUE : valueOf(houses, group);
            return value == NO_VALUE ? 0 : value;
        }

        private static int thingsOf(House[] houses, int group) {
            int things = 0;
            for (int i = 0; i < HOUSES; i++) {
                if (hasBit(group, i)) {
                    things |= houses[i].things;
                }
            }
            return things;
        }

        private void renew(House[] houses) {
            for (int group = 1; group < GROUPS && stale != 0; group++) {
                if ((group & stale) != 0) {
                    fill(houses, group);
                }
            }
            stale = 0;
        }

        /** A group's sums come from those of a lesser group, which stand already. */
        private void fill(House[] houses, int group) {
            int rest = group & (group - 1);
            Wish wish = houses[Integer.numberOfTrailingZeros(group)].wish;
            for (int pool = 0; pool < SETS; pool++) {
                sums[group][pool] = rest == 0 ? worthOrNone(wish, pool) : mostParted(wish, sums[rest], pool);
            }
        }

        private static int worthOrNone(Wish wish, int set) {
            return wish.bars[set] ? NO_VALUE : wish.worths[set];
        }

        private static int mostParted(Wish wish, int[] others, int pool) {
            // no THINGS are worth 0 and never BARRED; each part is below the one ahead of it, down to these none
            int most = others[pool];
            for (int part = pool; part > 0; part = (part - 1) & pool) {
                int left = others[pool ^ part];
                if (left != NO_VALUE && !wish.bars[part]) {
                    most = Math.max(most, left + wish.worths[part]);
                }
            }
            return most;
        }
    }

    private static final class Term {
        static final int UNPAID = -1;

        int kind;
        int payer;
        int taker;
        int coins;
        /** Of a DUE its hour; of an IF, a BAR its EVENT; of a MEND its TERM. */
        int about;
        int within;
        int paid = UNPAID;

        boolean isPaid() {
            return paid != UNPAID;
        }

        boolean isPaidBy(int hour) {
            return isPaid() && paid <= hour;
        }
    }

    /** TERMS, and what has happened. */
    private static final class Ledger {
        static final int MOST_TERMS = 16;
        static final int DUE = 0, IF = 1, MEND = 2, BAR = 3;
        static final int WAITING = 1, OWED = 2, PAID = 3, LATE = 4, MENDED = 5;
        static final int NEVER = -1;

        final Term[] terms = new Term[MOST_TERMS];
        /** ENDS AS OF the hour that was settled last; NONE, where there is none. */
        final int[] ends = new int[MOST_TERMS];
        private int count;
        private final int[] hours = new int[EVENTS];
        private final int[] known = new int[EVENTS];

        Ledger() {
            for (int i = 0; i < MOST_TERMS; i++) {
                terms[i] = new Term();
            }
            for (int i = 0; i < EVENTS; i++) {
                hours[i] = NEVER;
            }
        }

        boolean hasTerm(int term) {
            return term >= 0 && term < count && term < MOST_TERMS;
        }

        boolean isBar(int term) {
            return terms[term].kind == BAR;
        }

        int add(int kind, int payer, int taker, int coins, int about, int within) {
            if (count < 0 || count >= MOST_TERMS) {
                return FULL;
            }
            Term t = terms[count];
            t.kind = kind;
            t.payer = payer;
            t.taker = taker;
            t.coins = coins;
            t.about = about;
            t.within = within;
            count++;
            return count - 1;
        }

        boolean hasHappened(int event) {
            return hours[event] != NEVER;
        }

        void record(int event, int hour, int from) {
            hours[event] = hour;
            known[event] = from;
        }

        private boolean isKnown(int event, int hour) {
            return hasHappened(event) && known[event] <= hour;
        }

        /** A MEND is of a TERM that came ahead of it, so one way through finds all ENDS. */
        void settle(int hour) {
            for (int i = 0; i < count && i < MOST_TERMS; i++) {
                ends[i] = endOf(terms[i], hour);
            }
        }

        private int endOf(Term t, int hour) {
            if (t.kind == DUE) {
                return t.about;
            }
            if (t.kind == IF) {
                return isKnown(t.about, hour) ? hours[t.about] + t.within : NONE;
            }
            if (t.kind == MEND) {
                int broken = breakOf(t.about, hour);
                return broken == NONE ? NONE : broken + t.within;
            }
            return NONE;
        }

        int stateOf(int term, int hour) {
            Term t = terms[term];
            if (t.kind == BAR) {
                return isKnown(t.about, hour) ? LATE : WAITING;
            }
            int end = ends[term];
            if (end == NONE) {
                return WAITING;
            }
            if (t.isPaidBy(hour)) {
                return t.paid <= end ? PAID : MENDED;
            }
            return hour > end ? LATE : OWED;
        }

        private int breakOf(int term, int hour) {
            int state = stateOf(term, hour);
            if (state != LATE && state != MENDED) {
                return NONE;
            }
            return isBar(term) ? hours[terms[term].about] : ends[term] + 1;
        }

        int owedBy(int house, int hour) {
            int sum = 0;
            for (int i = 0; i < count && i < MOST_TERMS; i++) {
                int state = stateOf(i, hour);
                if (terms[i].payer == house && !isBar(i) && (state == OWED || state == LATE)) {
                    sum += terms[i].coins;
                }
            }
            return sum;
        }
    }

    /** THE ROW under its SUMS: node 1 is the ROOT, below node n stand 2n and 2n + 1, the numbers are the last 8. */
    private static final class Row {
        static final int LENGTH = 8;
        static final int STEPS = 3;
        static final int MOST = 999;
        static final int MODULUS = 9973;

        final int[] nodes = new int[2 * LENGTH];

        Row() {
            for (int node = LENGTH - 1; node > 0; node--) {
                nodes[node] = sum(nodes[2 * node], nodes[2 * node + 1]);
            }
        }

        private static int sum(int a, int b) {
            return (37 * a + 101 * b + 13) % MODULUS;
        }

        int put(int i, int v) {
            int before = nodes[LENGTH + i];
            nodes[LENGTH + i] = v;
            for (int node = (LENGTH + i) / 2; node > 0; node /= 2) {
                nodes[node] = sum(nodes[2 * node], nodes[2 * node + 1]);
            }
            return before;
        }

        int beside(int i, int step) {
            return nodes[((LENGTH + i) >> step) ^ 1];
        }

        /** The SUM of what stands at a place and its neighbour, in the order in which they stand. */
        static int climb(int place, int v, int neighbour) {
            return (place & 1) == 0 ? sum(v, neighbour) : sum(neighbour, v);
        }
    }

    /** A SHEET. Its items stand in one row of ints, made once; the LANE tells how many of an item's bits count. */
    private static final class Sheet {
        static final int MOST_ITEMS = 12;
        static final int MISSING = -1;
        static final int BYTES = 0, SHORTS = 1;

        final int[] items = new int[MOST_ITEMS];
        private int lane = MISSING;
        private int size;

        boolean isMissing() {
            return lane == MISSING;
        }

        void renew(int newLane, int n) {
            lane = newLane;
            size = n;
            for (int i = 0; i < MOST_ITEMS; i++) {
                items[i] = 0;
            }
        }

        int lose() {
            int before = size;
            lane = MISSING;
            size = 0;
            return before;
        }

        /** Why so many items of a LANE from one on can't be had; 0, if they can. */
        int refusal(int wantedLane, int from, int many) {
            if (isMissing()) {
                return NULL;
            }
            if (lane != wantedLane) {
                return CAST;
            }
            return from < 0 || from > size - many ? INDEX : 0;
        }

        void put(int i, int v) {
            if (i < 0 || i >= MOST_ITEMS) {
                return;
            }
            items[i] = lane == BYTES ? (byte) v : lane == SHORTS ? (short) v : v;
        }

        boolean areWithin(int from, int many, int most) {
            if (from < 0 || from > MOST_ITEMS - many) {
                return false;
            }
            for (int i = from; i < from + many; i++) {
                if (!isWithin(items[i], -most, most)) {
                    return false;
                }
            }
            return true;
        }
    }
}
