import java.lang.reflect.Method;
import java.util.ArrayList;
import java.util.Arrays;
import java.util.List;
import java.util.Map;
import java.util.Random;
import java.util.TreeMap;

/** Runs of calls, made from fixed seeds, on a BargainHall and on a PlainHall: all answers must be the same. */
public final class ModelTest {
    private static final int CALLS = 512;
    /**
     * What a call takes: H a HOUSE, U one that talked, T a THING, S a set, P a PRICE, C COINS, D COINS of a TERM, B, F, J a
     * number below 6, 3, 2, W WORDS, O of these one's own, L a LEVEL, N a WORD's number, G a group, E an EVENT, K an hour,
     * M a TERM, R a ROW's number, X a SUM, Q a SHEET, A a LANE, I an item's place, V an item, Y some bytes of a text, Z how
     * many of them.
     */
    private static final String[] CALL_FORMS = {
        "own TH", "coins HC", "type YZ", "wish H", "worth HS", "barred HS", "told HB", "set HFL", "gain HHSPJ", "good HHSP",
        "best HHF", "talk HHW", "talks F", "ask T", "offer SP", "yes ", "walk ", "says ", "runs ", "word NJ", "offered NJ",
        "learnt UO", "value G", "unrest ", "leaves ", "share H", "envy ", "due HHDK", "when HHDEB", "mend HHDMB", "bar HE",
        "happen EKK", "pay MK", "state MK", "end MK", "owes HK", "row RD", "root ", "proof RF", "proves RXXXX",
        "sheet QAI", "drop Q", "item QAIV", "wishes HQAI"};
    /** The calls that a run of each sort is mostly made of. */
    private static final String[] SORTS = {
        "own coins worth barred told set gain good best", "talk talk talks ask offer yes yes walk says says says runs word offered learnt set",
        "talk talk says says says says says says says runs offer learnt learnt learnt learnt set own", "own value unrest leaves share envy",
        "due when mend bar happen pay state state end end owes coins", "row root proof proves", "sheet drop item wishes worth",
        "talk says says offer yes told coins best gain good"};

    private static final Map<String, Method> OURS = new TreeMap<>();
    private static final Map<String, Method> THEIRS = new TreeMap<>();
    private static final Map<String, Integer> ANSWERED = new TreeMap<>();

    private final Random random;
    private final String[] mostly;
    private final BargainHall hall = new BargainHall();
    private final PlainHall plain = new PlainHall();
    private final List<String> told = new ArrayList<>();
    private int wrong;

    private ModelTest(long seed) {
        // neighbouring seeds alone would begin alike
        random = new Random(seed * 0x9E3779B97F4A7C15L);
        mostly = SORTS[(int) (seed % SORTS.length)].split(" ");
    }

    public static void main(String[] args) throws Exception {
        int runs = args.length > 0 ? Integer.parseInt(args[0]) : 400;
        long first = args.length > 1 ? Long.parseLong(args[1]) : 1;
        Check check = new Check("ModelTest");
        for (String form : CALL_FORMS) {
            findMethods(nameOf(form));
        }
        for (long seed = first; seed < first + runs; seed++) {
            ModelTest test = new ModelTest(seed);
            PlainHall.forget();
            test.run();
            check.due("run " + seed + ": answers that differ", test.wrong, 0);
        }
        for (String form : CALL_FORMS) {
            check.holds(form + "was called and not only refused", ANSWERED.getOrDefault(nameOf(form), 0) > 0);
        }
        check.finish();
    }

    private static void findMethods(String name) throws Exception {
        for (Method m : BargainHall.class.getDeclaredMethods()) {
            if (m.getName().equals(name)) {
                OURS.put(name, m);
                THEIRS.put(name, PlainHall.class.getDeclaredMethod(name, m.getParameterTypes()));
            }
        }
    }

    private static String nameOf(String form) {
        return form.substring(0, form.indexOf(' '));
    }

    private void run() throws Exception {
        scatter();
        while (told.size() < CALLS && wrong == 0) {
            int sort = random.nextInt(20);
            if (sort == 0) {
                tellWish(random.nextInt(4) == 0);
            } else if (sort < 16) {
                callOf(mostly[random.nextInt(mostly.length)]);
            } else {
                callOf(nameOf(CALL_FORMS[random.nextInt(CALL_FORMS.length)]));
            }
        }
    }

    /** Few HOUSES hold most THINGS at times, so that a TALK is about few enough to learn from. */
    private void scatter() throws Exception {
        for (int thing = 0; thing < 6; thing++) {
            call("own", thing, random.nextInt(4));
        }
        for (int house = 0; house < 4; house++) {
            if (random.nextBoolean()) {
                tellWish(false);
                call("set", house, 1, random.nextInt(60));
                call("set", house, 2, random.nextInt(12));
            }
        }
    }

    private void callOf(String name) throws Exception {
        for (String form : CALL_FORMS) {
            if (nameOf(form).equals(name)) {
                String kinds = form.substring(form.indexOf(' ') + 1);
                Object[] given = new Object[kinds.length()];
                for (int i = 0; i < given.length; i++) {
                    given[i] = number(kinds.charAt(i));
                }
                call(name, given);
            }
        }
    }

    private void call(String name, Object... given) throws Exception {
        long got = ((Number) OURS.get(name).invoke(hall, given)).longValue();
        long want = ((Number) THEIRS.get(name).invoke(plain, given)).longValue();
        told.add(name + Arrays.toString(given) + " " + got);
        if (got >= 0) {
            ANSWERED.merge(name, 1, Integer::sum);
        }
        if (got != want && wrong++ == 0) {
            System.out.println("ModelTest: after " + told + " due is " + want);
        }
    }

    private Object number(char kind) {
        if (kind == 'Y') {
            return bytes();
        }
        int off = random.nextInt(60);
        if (off == 0) {
            return random.nextInt();
        }
        if (off == 1) {
            return new int[] {-1, Integer.MIN_VALUE, Integer.MAX_VALUE, -2, 4, 6, 8, 64}[random.nextInt(8)];
        }
        int edge = random.nextInt(12);
        switch (kind) {
            case 'H': return random.nextInt(4);
            case 'U': return edge == 0 ? random.nextInt(4) : talker();
            case 'O': return random.nextInt(2 + hall.talks(1) / 2);
            case 'T': return random.nextInt(6);
            case 'S': return edge < 6 ? 1 << random.nextInt(6) & random.nextInt(64) : random.nextInt(64);
            case 'P': return edge == 0 ? 999 : edge == 1 ? -1000 : edge < 8 ? random.nextInt(81) - 40 : random.nextInt(2003) - 1001;
            case 'C': return edge == 0 ? 9999 : edge == 1 ? 10000 : edge < 4 ? random.nextInt(40) : random.nextInt(10000);
            case 'D': return edge == 0 ? 999 : edge == 1 ? 0 : 1 + random.nextInt(999);
            case 'B': return random.nextInt(6);
            case 'F': return edge == 0 ? 3 : random.nextInt(3);
            case 'J': return edge == 0 ? 2 : random.nextInt(2);
            case 'W': return edge == 0 ? random.nextInt(22) : 2 + random.nextInt(19);
            case 'L': return edge < 8 ? random.nextInt(60) : 900 + random.nextInt(102);
            case 'N': return random.nextInt(edge < 8 ? 6 : 21);
            case 'G': return edge == 0 ? random.nextInt(18) : 1 + random.nextInt(15);
            case 'E': return random.nextInt(10);
            case 'K': return edge == 0 ? 9999 : edge == 1 ? 10000 : random.nextInt(60);
            case 'M': return edge == 0 ? random.nextInt(18) : random.nextInt(8);
            case 'R': return random.nextInt(8);
            case 'X': return edge == 0 ? 9973 : random.nextInt(9973);
            case 'Q': return random.nextInt(4);
            case 'A': return edge < 8 ? 1 : random.nextInt(3);
            case 'I': return edge < 2 ? random.nextInt(15) - 1 : edge < 8 ? random.nextInt(7) : 6 + random.nextInt(7);
            case 'V': return edge < 2 ? random.nextInt(140000) - 70000 : random.nextInt(201) - 100;
            default: return 1 + random.nextInt(8);
        }
    }

    private int talker() {
        int house = hall.word(random.nextInt(2), 1);
        return house >= 0 ? house : random.nextInt(4);
    }

    private long bytes() {
        String signs = "abcdef0123456789;;-! ~ag";
        long w = 0;
        for (int i = 0; i < 8; i++) {
            w = w << 8 | signs.charAt(random.nextInt(signs.length()));
        }
        return random.nextInt(30) == 0 ? random.nextLong() : w;
    }

    private void tellWish(boolean garbled) throws Exception {
        StringBuilder text = new StringBuilder(wishText());
        for (int i = random.nextInt(6); garbled && i > 0 && text.length() > 0; i--) {
            int at = random.nextInt(text.length());
            char sign = "abcdefg0123456789;-! ".charAt(random.nextInt(21));
            if (random.nextInt(3) == 0) {
                text.deleteCharAt(at);
            } else if (random.nextBoolean()) {
                text.setCharAt(at, sign);
            } else {
                text.insert(at, sign);
            }
        }
        for (int from = 0; from < text.length(); from += 8) {
            int to = Math.min(from + 8, text.length());
            long w = 0;
            for (int i = from; i < to; i++) {
                w = w << 8 | text.charAt(i);
            }
            call("type", w, to - from);
        }
        call("wish", random.nextInt(4));
    }

    private String wishText() {
        StringBuilder text = new StringBuilder();
        int clauses = 1 + random.nextInt(random.nextInt(6) == 0 ? 14 : 6);
        boolean plainNumbers = random.nextBoolean();
        for (int i = 0; i < clauses; i++) {
            text.append(i == 0 ? "" : ";").append(random.nextInt(8) == 0 ? " " : "");
            boolean bar = random.nextInt(5) == 0 && !plainNumbers;
            text.append(bar ? "!" : "");
            int set = plainNumbers || random.nextBoolean() ? 1 << random.nextInt(6) : 1 + random.nextInt(63);
            for (int thing = 0; thing < 6; thing++) {
                text.append((set >> thing & 1) == 1 ? String.valueOf((char) ('a' + thing)) : "");
            }
            if (!bar) {
                text.append(random.nextInt(4) == 0 && !plainNumbers ? "-" : "");
                text.append(plainNumbers ? 10 * random.nextInt(3) : random.nextInt(random.nextInt(9) == 0 ? 120 : 100));
            }
        }
        return text.toString();
    }
}
