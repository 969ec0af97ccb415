import java.util.ArrayList;
import java.util.List;

/**
 * Every refusal of every call, in the document's order: the answer; which one it is, if there are several; and that nothing
 * has changed then: the object answers as one does that has never heard the refused call.
 */
public final class RefusalsTest {
    private static final Check CHECK = new Check("RefusalsTest");
    private static final int BAD = BargainHall.BAD, NOT = BargainHall.NOT, FULL = BargainHall.FULL, NONE = BargainHall.NONE;
    private static final int NULL = BargainHall.NULL, CAST = BargainHall.CAST, INDEX = BargainHall.INDEX, SIZE = BargainHall.SIZE;
    private static final int LOWER_BAD = -10001, LOWER_NOT = -10002, LOWER_NONE = -10004, LOWER_CAST = -10012;

    private interface Setup {
        void on(BargainHall x);
    }

    private interface Call {
        long on(BargainHall x);
    }

    public static void main(String[] args) {
        thingsAndCoins();
        texts();
        asked();
        noBest();
        talk();
        asksAndOffers();
        yes();
        notOpen();
        words();
        learnt();
        groups();
        fullTerms();
        happen();
        pay();
        states();
        rows();
        sheets();
        items();
        wishes();
        CHECK.covers(2, 24);
        CHECK.covers(26, 38);
        CHECK.covers(40, 45);
        CHECK.finish();
    }

    private static void refused(String what, long due, Setup setup, Call call) {
        BargainHall x = new BargainHall();
        setup.on(x);
        CHECK.due(what, call.on(x), due);
        BargainHall y = new BargainHall();
        setup.on(y);
        alike(what + ": nothing changes", x, y);
    }

    private static void alike(String what, BargainHall x, BargainHall y) {
        List<Long> one = picture(x);
        List<Long> other = picture(y);
        CHECK.holds(what + "\n  " + one + "\n  " + other, one.equals(other));
    }

    /** All that an object can be asked for; it is used up by that. */
    private static List<Long> picture(BargainHall x) {
        List<Long> answers = new ArrayList<>();
        for (int what = 0; what < 3; what++) {
            answers.add((long) x.talks(what));
        }
        for (int i = 0; i <= x.talks(1); i++) {
            for (int what = 0; what < 2; what++) {
                answers.add((long) x.word(i, what));
                answers.add((long) x.offered(i, what));
            }
        }
        for (int house = 0; house < 4; house++) {
            answers.add((long) x.learnt(house, 0));
            for (int what = 0; what < 6; what++) {
                answers.add((long) x.told(house, what));
            }
            for (int set : new int[] {1, 2, 4, 8, 16, 32, 63}) {
                answers.add((long) x.worth(house, set));
                answers.add((long) x.barred(house, set));
            }
        }
        termsOf(x, answers);
        answers.add((long) x.root());
        for (int i = 0; i < 8; i++) {
            answers.add((long) x.proof(i, 0));
        }
        useUp(x, answers);
        return answers;
    }

    private static void termsOf(BargainHall x, List<Long> answers) {
        int[] hours = {0, 14, 15, 20, 21, 25, 9999};
        for (int term = 0; term < 17; term++) {
            for (int hour : term < 6 ? hours : new int[] {0}) {
                answers.add((long) x.state(term, hour));
                answers.add((long) x.end(term, hour));
            }
        }
    }

    /** What can be seen only by changing it: how long the TALK may go on, EVENTS, what is paid, THE TAPE, SHEETS. */
    private static void useUp(BargainHall x, List<Long> answers) {
        for (int i = 0; i < 21 && x.talks(0) == 1; i++) {
            answers.add((long) x.offer(0, 0));
        }
        for (int event = 0; event < 10; event++) {
            answers.add((long) x.happen(event, 1, 1));
        }
        for (int term = 0; term < 6; term++) {
            answers.add((long) x.pay(term, 9999));
        }
        answers.add((long) x.type(32, 1));
        answers.add((long) x.wish(3));
        answers.add((long) x.worth(3, 1));
        for (int sheet = 0; sheet < 4; sheet++) {
            for (int lane = 0; lane < 3; lane++) {
                answers.add((long) x.wishes(2, sheet, lane, 0));
                answers.add((long) x.worth(2, 1));
                answers.add((long) x.worth(2, 32));
            }
            answers.add((long) x.drop(sheet));
        }
    }

    /** A hall where of everything something was told: a TALK was LEFT, TERMS are paid, known, waited for. */
    private static void quiet(BargainHall x) {
        int[] owners = {0, 1, 1, 2, 2, 3};
        for (int thing = 0; thing < 6; thing++) {
            x.own(thing, owners[thing]);
        }
        Check.wish(x, 0, "a10;b20;!f");
        Check.wish(x, 1, "a15;bc5;!e");
        Check.wish(x, 2, "d7;e-3");
        x.coins(1, 500);
        x.set(0, 1, 40);
        x.talk(0, 1, 4);
        x.offer(1, 5);
        x.says();
        x.walk();
        x.due(0, 1, 100, 20);
        x.when(1, 2, 50, 3, 10);
        x.mend(1, 0, 30, 0, 5);
        x.bar(2, 4);
        x.when(0, 1, 60, 5, 10);
        x.happen(3, 10, 15);
        x.pay(0, 25);
        x.row(0, 7);
        x.row(5, 900);
        x.sheet(0, 1, 7);
        x.item(0, 1, 0, 11);
        x.item(0, 1, 5, -22);
        x.item(0, 1, 6, 100);
        x.sheet(1, 0, 12);
        x.sheet(2, 2, 0);
        Check.type(x, "a5");
    }

    /** The same, and HOUSES 0 and 1 talk: it is 1's turn, behind an OFFER. */
    private static void open(BargainHall x) {
        quiet(x);
        x.talk(0, 1, 6);
        x.offer(3, 4);
    }

    private static final Setup QUIET = RefusalsTest::quiet;
    private static final Setup OPEN = RefusalsTest::open;

    private static void thingsAndCoins() {
        refused("2 own, BAD: no THING", BAD, QUIET, x -> x.own(6, 1));
        refused("2 own, BAD: no HOUSE", BAD, QUIET, x -> x.own(0, 4));
        refused("2 own, NOT: a TALK is OPEN", NOT, OPEN, x -> x.own(0, 1));
        refused("2 own, NOT: a TALK is OPEN, of another one's THING", NOT, OPEN, x -> x.own(5, 2));
        refused("2 own, BAD ahead of NOT: THING", BAD, OPEN, x -> x.own(-1, 1));
        refused("2 own, BAD ahead of NOT: HOUSE", BAD, OPEN, x -> x.own(0, -1));
        refused("3 coins, BAD: no HOUSE", BAD, QUIET, x -> x.coins(4, 1));
        refused("3 coins, BAD: below 0", BAD, QUIET, x -> x.coins(0, -1));
        refused("3 coins, BAD: above 9999", BAD, QUIET, x -> x.coins(0, 10000));
        refused("3 coins, NOT: a TALK is OPEN", NOT, OPEN, x -> x.coins(0, 1));
        refused("3 coins, NOT: a TALK of others is OPEN", NOT, OPEN, x -> x.coins(3, 1));
        refused("3 coins, BAD ahead of NOT", BAD, OPEN, x -> x.coins(0, 10000));
        refused("9 set, BAD: no HOUSE", BAD, QUIET, x -> x.set(4, 0, 1));
        refused("9 set, BAD: nothing of it", BAD, QUIET, x -> x.set(0, 3, 1));
        refused("9 set, BAD: a MANDATE of 1000", BAD, QUIET, x -> x.set(0, 0, 1000));
        refused("9 set, BAD: a START of 1000", BAD, QUIET, x -> x.set(0, 1, 1000));
        refused("9 set, BAD: a DOWN of 100", BAD, QUIET, x -> x.set(0, 2, 100));
        refused("9 set, NOT: a TALK is OPEN", NOT, OPEN, x -> x.set(0, 0, 1));
        refused("9 set, NOT: a TALK of others is OPEN", NOT, OPEN, x -> x.set(3, 2, 1));
        refused("9 set, BAD ahead of NOT", BAD, OPEN, x -> x.set(0, 2, 100));
    }

    private static void texts() {
        Setup of88 = x -> {
            quiet(x);
            for (int i = 0; i < 86; i++) {
                x.type(32, 1);
            }
        };
        refused("4 type, BAD: no byte", BAD, QUIET, x -> x.type(0x61, 0));
        refused("4 type, BAD: nine bytes", BAD, QUIET, x -> x.type(0x6161616161616161L, 9));
        refused("4 type, BAD: the first byte is 31", BAD, QUIET, x -> x.type(0x1f61, 2));
        refused("4 type, BAD: the last byte is 127", BAD, QUIET, x -> x.type(0x617f, 2));
        refused("4 type, FULL: 90 are there but for two", FULL, of88, x -> x.type(0x616161, 3));
        refused("4 type, FULL: the eight would go to 96", FULL, of88, x -> x.type(0x6161616161616161L, 8));
        refused("4 type, BAD ahead of FULL: a byte", BAD, of88, x -> x.type(0x61617f, 3));
        refused("4 type, BAD ahead of FULL: n", BAD, of88, x -> x.type(0x6161616161616161L, 9));
        refused("5 wish, BAD: THE TAPE stays", BAD, QUIET, x -> x.wish(4));
        refused("5 wish, NOT: a TALK is OPEN, THE TAPE stays", NOT, OPEN, x -> x.wish(0));
        refused("5 wish, NOT: a TALK of others is OPEN", NOT, OPEN, x -> x.wish(3));
        refused("5 wish, BAD ahead of NOT", BAD, OPEN, x -> x.wish(-1));
        refused("5 wish, BAD ahead of a FAULT", BAD, x -> {
            quiet(x);
            x.type('!', 1);
        }, x -> x.wish(4));
        refused("5 wish, NOT ahead of a FAULT", NOT, x -> {
            open(x);
            x.type('!', 1);
        }, x -> x.wish(0));

        BargainHall x = new BargainHall();
        quiet(x);
        x.type('!', 1);
        CHECK.due("5 wish, a FAULT", x.wish(0), -22);
        BargainHall y = new BargainHall();
        quiet(y);
        y.wish(3);
        y.sheet(3, 0, 6);
        y.wishes(3, 3, 0, 0);
        x.sheet(3, 0, 6);
        x.wishes(3, 3, 0, 0);
        alike("5 wish, a FAULT: THE TAPE is empty, all else stays", x, y);
    }

    private static void asked() {
        refused("6 worth, BAD: no HOUSE", LOWER_BAD, QUIET, x -> x.worth(4, 0));
        refused("6 worth, BAD: no set", LOWER_BAD, QUIET, x -> x.worth(0, 64));
        refused("7 barred, BAD: no HOUSE", BAD, QUIET, x -> x.barred(-1, 0));
        refused("7 barred, BAD: no set", BAD, QUIET, x -> x.barred(0, -1));
        refused("8 told, BAD: no HOUSE", BAD, QUIET, x -> x.told(4, 0));
        refused("8 told, BAD: nothing of it", BAD, QUIET, x -> x.told(0, 6));
        refused("10 gain, BAD: one HOUSE", LOWER_BAD, QUIET, x -> x.gain(1, 1, 2, 0, 0));
        refused("10 gain, BAD: THINGS of others", LOWER_BAD, QUIET, x -> x.gain(0, 1, 8, 0, 0));
        refused("10 gain, BAD: THINGS of others among theirs", LOWER_BAD, QUIET, x -> x.gain(0, 1, 15, 0, 0));
        refused("10 gain, BAD: of neither", LOWER_BAD, QUIET, x -> x.gain(0, 1, 1, 0, 2));
        refused("11 good, BAD: one HOUSE", BAD, QUIET, x -> x.good(1, 1, 2, 0));
        refused("11 good, BAD: THINGS of others", BAD, QUIET, x -> x.good(0, 1, 8, 0));
        refused("11 good, BAD: a PRICE of 1000", BAD, QUIET, x -> x.good(0, 1, 1, 1000));
        refused("12 best, BAD: one HOUSE", LOWER_BAD, QUIET, x -> x.best(1, 1, 0));
        refused("12 best, BAD: nothing of it", LOWER_BAD, QUIET, x -> x.best(0, 1, 4));
    }

    private static void noBest() {
        Setup mandates = x -> {
            quiet(x);
            x.set(0, 0, 999);
        };
        for (int i = 0; i < 4; i++) {
            int what = i;
            refused("12 best, NONE: below both MANDATES, " + i, LOWER_NONE, mandates, x -> x.best(0, 1, what));
        }
        refused("12 best, BAD ahead of NONE: one HOUSE", LOWER_BAD, mandates, x -> x.best(0, 0, 0));
        refused("12 best, BAD ahead of NONE: nothing of it", LOWER_BAD, mandates, x -> x.best(0, 1, -1));
        Setup barred = x -> {
            quiet(x);
            x.wish(3);
            Check.wish(x, 0, "!a");
            Check.wish(x, 1, "!a");
        };
        refused("12 best, NONE: each EXCHANGE is BARRED", LOWER_NONE, barred, x -> x.best(0, 1, 0));
        // a for b: 50 for 0, 10 for 1, so 0 pays 20
        Setup poor = x -> {
            quiet(x);
            x.wish(3);
            Check.wish(x, 0, "a10;b60");
            x.coins(0, 19);
        };
        refused("12 best, NONE: it is not GOOD", LOWER_NONE, poor, x -> x.best(0, 1, 1));
        BargainHall x = new BargainHall();
        poor.on(x);
        x.coins(0, 20);
        CHECK.due("12 best, all the COINS it has", x.best(0, 1, 1), 20);
    }

    private static void talk() {
        refused("13 talk, BAD: one HOUSE", BAD, QUIET, x -> x.talk(1, 1, 5));
        refused("13 talk, BAD: no HOUSE", BAD, QUIET, x -> x.talk(4, 1, 5));
        refused("13 talk, BAD: no WORDS", BAD, QUIET, x -> x.talk(0, 1, 0));
        refused("13 talk, BAD: 21 WORDS", BAD, QUIET, x -> x.talk(0, 1, 21));
        refused("13 talk, NOT: one is OPEN", NOT, OPEN, x -> x.talk(0, 1, 20));
        refused("13 talk, NOT: one is OPEN, of others", NOT, OPEN, x -> x.talk(3, 2, 1));
        refused("13 talk, BAD ahead of NOT: one HOUSE", BAD, OPEN, x -> x.talk(2, 2, 5));
        refused("13 talk, BAD ahead of NOT: WORDS", BAD, OPEN, x -> x.talk(2, 3, 21));
        refused("14 talks, BAD", BAD, OPEN, x -> x.talks(3));
        refused("14 talks, NONE: not OPEN", NONE, QUIET, x -> x.talks(2));
        refused("14 talks, NONE: none was", NONE, x -> { }, x -> x.talks(2));
    }

    private static void asksAndOffers() {
        refused("15 ask, BAD: no THING", BAD, OPEN, x -> x.ask(6));
        refused("15 ask, NOT: no TALK is OPEN", NOT, QUIET, x -> x.ask(0));
        refused("15 ask, NOT: its own THING", NOT, OPEN, x -> x.ask(1));
        refused("15 ask, NOT: a THING of another one", NOT, OPEN, x -> x.ask(5));
        refused("15 ask, BAD ahead of NOT", BAD, QUIET, x -> x.ask(-1));
        refused("16 offer, NOT: no TALK is OPEN", NOT, QUIET, x -> x.offer(1, 0));
        refused("16 offer, BAD: no set", BAD, OPEN, x -> x.offer(64, 0));
        refused("16 offer, BAD: THINGS of others", BAD, OPEN, x -> x.offer(9, 0));
        refused("16 offer, BAD: a PRICE of -1000", BAD, OPEN, x -> x.offer(1, -1000));
        refused("16 offer, NOT ahead of BAD: set", NOT, QUIET, x -> x.offer(64, 0));
        refused("16 offer, NOT ahead of BAD: PRICE", NOT, QUIET, x -> x.offer(1, 1000));
    }

    /** An OFFER to 1 of a set for a PRICE, with so many COINS of 0 and 1, and WISHES. */
    private static Setup offered(int set, int price, int coins0, int coins1, String wish0, String wish1) {
        return x -> {
            quiet(x);
            x.wish(3);
            Check.wish(x, 0, wish0);
            Check.wish(x, 1, wish1);
            x.coins(0, coins0);
            x.coins(1, coins1);
            x.set(1, 0, 20);
            x.talk(0, 1, 20);
            x.offer(set, price);
        };
    }

    private static void said(String what, long due, Setup setup) {
        BargainHall x = new BargainHall();
        setup.on(x);
        CHECK.due(what, x.yes(), due);
    }

    private static void yes() {
        refused("17 yes, NOT: no TALK is OPEN", LOWER_NOT, QUIET, BargainHall::yes);
        refused("17 yes, NOT: no WORD was said", LOWER_NOT, x -> {
            quiet(x);
            x.talk(1, 0, 5);
        }, BargainHall::yes);
        refused("17 yes, NOT: the WORD ahead is an ASK", LOWER_NOT, x -> {
            open(x);
            x.ask(0);
        }, BargainHall::yes);
        refused("17 yes, NOT: the OFFER is of the TALK that was", LOWER_NOT, x -> {
            quiet(x);
            x.talk(0, 1, 1);
            x.offer(0, 0);
            x.talk(1, 0, 5);
        }, BargainHall::yes);
        refused("17 yes, NOT: BARRED to the one that says it", LOWER_NOT, offered(1, 50, 1000, 1000, "a1", "a1;!ab"), BargainHall::yes);
        refused("17 yes, NOT: BARRED to the other one", LOWER_NOT, offered(2, 50, 1000, 1000, "a1;!ab", "a1"), BargainHall::yes);
        refused("17 yes, NOT: the other one has no such COINS", LOWER_NOT, offered(0, 50, 49, 1000, "a1", "a1"), BargainHall::yes);
        said("17 yes, all of the other one's COINS", 50, offered(0, 50, 50, 1000, "a1", "a1"));
        refused("17 yes, NOT: it would have 10000", LOWER_NOT, offered(0, 50, 1000, 9950, "a1", "a1"), BargainHall::yes);
        said("17 yes, it has 9999 then", 50, offered(0, 50, 1000, 9949, "a1", "a1"));
        refused("17 yes, NOT: it has no such COINS", LOWER_NOT, offered(1, -50, 1000, 49, "b1", "a90"), BargainHall::yes);
        said("17 yes, all its own COINS", 40, offered(1, -50, 1000, 50, "b1", "a90"));
        refused("17 yes, NOT: the other one would have 10000", LOWER_NOT, offered(1, -50, 9950, 1000, "b1", "a90"), BargainHall::yes);
        said("17 yes, the other one has 9999 then", 40, offered(1, -50, 9949, 1000, "b1", "a90"));
        refused("17 yes, NOT: its GAIN is below the MANDATE", LOWER_NOT, offered(0, 19, 1000, 1000, "a1", "a1"), BargainHall::yes);
        said("17 yes, its GAIN is the MANDATE", 20, offered(0, 20, 1000, 1000, "a1", "a1"));
    }

    private static void notOpen() {
        Setup agreed = x -> {
            quiet(x);
            x.talk(0, 1, 6);
            x.offer(1, 10);
            x.yes();
        };
        Setup over = x -> {
            quiet(x);
            x.talk(0, 1, 1);
            x.offer(1, 10);
        };
        Setup[] all = {x -> { }, QUIET, agreed, over};
        String[] names = {"none was", "LEFT", "AGREED", "OVER"};
        for (int i = 0; i < all.length; i++) {
            refused("15 ask, NOT: " + names[i], NOT, all[i], x -> x.ask(0));
            refused("16 offer, NOT: " + names[i], NOT, all[i], x -> x.offer(0, 0));
            refused("17 yes, NOT: " + names[i], LOWER_NOT, all[i], BargainHall::yes);
            refused("18 walk, NOT: " + names[i], NOT, all[i], BargainHall::walk);
            refused("19 says, NOT: " + names[i], NOT, all[i], BargainHall::says);
            refused("20 runs, NOT: " + names[i], NOT, all[i], BargainHall::runs);
            refused("14 talks, NONE: " + names[i], NONE, all[i], x -> x.talks(2));
            BargainHall x = new BargainHall();
            all[i].on(x);
            CHECK.due("14 how it stands: " + names[i], x.talks(0), new int[] {0, 3, 2, 4}[i]);
            CHECK.due("13 talk: " + names[i], x.talk(2, 3, 1), 1);
        }
    }

    private static void words() {
        refused("21 word, BAD: no TALK was", BAD, x -> { }, x -> x.word(0, 0));
        refused("21 word, BAD: not said yet", BAD, OPEN, x -> x.word(1, 0));
        refused("21 word, BAD: said in the TALK that was", BAD, x -> {
            quiet(x);
            x.talk(0, 1, 5);
        }, x -> x.word(0, 0));
        refused("21 word, BAD: nothing of it", BAD, OPEN, x -> x.word(0, 2));
        refused("22 offered, BAD: not said yet", LOWER_BAD, OPEN, x -> x.offered(1, 0));
        refused("22 offered, BAD: nothing of it", LOWER_BAD, OPEN, x -> x.offered(0, 2));
        refused("22 offered, CAST: a WALK", LOWER_CAST, QUIET, x -> x.offered(2, 0));
        refused("22 offered, CAST: an ASK", LOWER_CAST, x -> {
            open(x);
            x.ask(0);
        }, x -> x.offered(1, 1));
        refused("22 offered, CAST: a YES", LOWER_CAST, x -> {
            open(x);
            x.walk();
            x.talk(1, 2, 3);
            x.offer(0, 10);
            x.yes();
        }, x -> x.offered(1, 0));
        refused("22 offered, BAD ahead of CAST", LOWER_BAD, QUIET, x -> x.offered(2, 2));
    }

    private static void learnt() {
        Setup five = x -> {
            quiet(x);
            x.own(5, 0);
            x.own(4, 0);
            x.talk(1, 0, 5);
            x.offer(0, 0);
        };
        refused("23 learnt, BAD: no HOUSE", BAD, OPEN, x -> x.learnt(4, 0));
        refused("23 learnt, BAD: one that does not talk", BAD, OPEN, x -> x.learnt(2, 0));
        refused("23 learnt, BAD: more WORDS than a said", BAD, OPEN, x -> x.learnt(0, 2));
        refused("23 learnt, BAD: more WORDS than b said", BAD, OPEN, x -> x.learnt(1, 1));
        refused("23 learnt, BAD: below 0", BAD, OPEN, x -> x.learnt(0, -1));
        refused("23 learnt, NOT: no TALK was", NOT, x -> { }, x -> x.learnt(0, 0));
        refused("23 learnt, NOT: five THINGS", NOT, five, x -> x.learnt(1, 1));
        refused("23 learnt, NOT: five THINGS, of b", NOT, five, x -> x.learnt(0, 0));
        refused("23 learnt, BAD ahead of NOT: one that does not talk", BAD, five, x -> x.learnt(2, 0));
        refused("23 learnt, BAD ahead of NOT: more WORDS than it said", BAD, five, x -> x.learnt(0, 1));
        refused("23 learnt, BAD ahead of NOT: no HOUSE, no TALK", BAD, x -> { }, x -> x.learnt(4, 0));
    }

    private static void groups() {
        refused("24 value, BAD: nobody", LOWER_BAD, QUIET, x -> x.value(0));
        refused("24 value, BAD: a fifth HOUSE", LOWER_BAD, QUIET, x -> x.value(16));
        Setup barred = x -> {
            quiet(x);
            x.wish(3);
            Check.wish(x, 0, "!a");
        };
        refused("24 value, NONE", LOWER_NONE, barred, x -> x.value(1));
        refused("26 leaves, NONE: REST", NONE, x -> { }, BargainHall::leaves);
        refused("27 share, BAD: no HOUSE", -2147483649L, QUIET, x -> x.share(4));
        refused("28 envy, NONE", NONE, x -> { }, BargainHall::envy);
    }

    private static void fullTerms() {
        Setup full = x -> {
            quiet(x);
            for (int i = 0; i < 11; i++) {
                x.due(2, 3, 7, 50 + i);
            }
        };
        Setup[] both = {QUIET, full};
        for (Setup setup : both) {
            String where = setup == full ? "BAD ahead of FULL: " : "BAD: ";
            refused("29 due, " + where + "one HOUSE", BAD, setup, x -> x.due(1, 1, 5, 5));
            refused("29 due, " + where + "no COINS", BAD, setup, x -> x.due(0, 1, 0, 5));
            refused("29 due, " + where + "1000 COINS", BAD, setup, x -> x.due(0, 1, 1000, 5));
            refused("29 due, " + where + "no hour", BAD, setup, x -> x.due(0, 1, 5, 10000));
            refused("30 when, " + where + "one HOUSE", BAD, setup, x -> x.when(1, 1, 5, 5, 5));
            refused("30 when, " + where + "no EVENT", BAD, setup, x -> x.when(0, 1, 5, 10, 5));
            refused("30 when, " + where + "within 1000 hours", BAD, setup, x -> x.when(0, 1, 5, 5, 1000));
            refused("31 mend, " + where + "one HOUSE", BAD, setup, x -> x.mend(1, 1, 5, 0, 5));
            refused("31 mend, " + where + "no such TERM", BAD, setup, x -> x.mend(0, 1, 5, 16, 5));
            refused("31 mend, " + where + "within -1 hours", BAD, setup, x -> x.mend(0, 1, 5, 0, -1));
            refused("32 bar, " + where + "no HOUSE", BAD, setup, x -> x.bar(4, 0));
            refused("32 bar, " + where + "no EVENT", BAD, setup, x -> x.bar(0, 10));
        }
        refused("31 mend, BAD: a TERM that is none yet", BAD, QUIET, x -> x.mend(0, 1, 5, 5, 5));
        refused("29 due, FULL: 16", FULL, full, x -> x.due(0, 1, 5, 5));
        refused("30 when, FULL: 16", FULL, full, x -> x.when(0, 1, 5, 5, 5));
        refused("31 mend, FULL: 16", FULL, full, x -> x.mend(0, 1, 5, 15, 5));
        refused("32 bar, FULL: 16", FULL, full, x -> x.bar(0, 5));
    }

    private static void happen() {
        refused("33 happen, BAD: no EVENT", BAD, QUIET, x -> x.happen(10, 1, 1));
        refused("33 happen, BAD: no hour", BAD, QUIET, x -> x.happen(5, -1, 1));
        refused("33 happen, BAD: known at no hour", BAD, QUIET, x -> x.happen(5, 1, 10000));
        refused("33 happen, BAD: known below it", BAD, QUIET, x -> x.happen(5, 9, 8));
        refused("33 happen, NOT: it has happened", NOT, QUIET, x -> x.happen(3, 1, 1));
        refused("33 happen, NOT: it has happened, at the same hours", NOT, QUIET, x -> x.happen(3, 10, 15));
        refused("33 happen, BAD ahead of NOT: known below it", BAD, QUIET, x -> x.happen(3, 9, 8));
        refused("33 happen, BAD ahead of NOT: no hour", BAD, QUIET, x -> x.happen(3, 10000, 10000));
        refused("33 happen, NOT: at hour 0", NOT, x -> {
            quiet(x);
            x.happen(5, 0, 0);
        }, x -> x.happen(5, 3, 3));
    }

    private static void pay() {
        refused("34 pay, BAD: no such TERM", BAD, QUIET, x -> x.pay(5, 1));
        refused("34 pay, BAD: no hour", BAD, QUIET, x -> x.pay(1, 10000));
        refused("34 pay, CAST: a BAR", CAST, QUIET, x -> x.pay(3, 1));
        refused("34 pay, BAD ahead of CAST", BAD, QUIET, x -> x.pay(3, -1));
        refused("34 pay, NOT: it is paid", NOT, QUIET, x -> x.pay(0, 1));
        refused("34 pay, NOT: it is paid at hour 0", NOT, x -> {
            quiet(x);
            x.pay(1, 0);
        }, x -> x.pay(1, 3));
        refused("34 pay, NOT: a has fewer COINS", NOT, x -> {
            quiet(x);
            x.coins(1, 49);
        }, x -> x.pay(1, 1));
        refused("34 pay, NOT: b would have more than 9999", NOT, x -> {
            quiet(x);
            x.coins(2, 9950);
        }, x -> x.pay(1, 1));
        refused("34 pay, NOT: a TALK is OPEN", NOT, OPEN, x -> x.pay(1, 1));
        refused("34 pay, BAD ahead of NOT: no hour", BAD, OPEN, x -> x.pay(1, -1));
        refused("34 pay, BAD ahead of NOT: it is paid", BAD, QUIET, x -> x.pay(0, 10000));
        refused("34 pay, CAST ahead of NOT: a TALK is OPEN", CAST, OPEN, x -> x.pay(3, 1));
    }

    private static void states() {
        refused("35 state, BAD: no such TERM", BAD, QUIET, x -> x.state(5, 1));
        refused("35 state, BAD: no hour", BAD, QUIET, x -> x.state(0, 10000));
        refused("36 end, BAD: no such TERM", BAD, QUIET, x -> x.end(5, 1));
        refused("36 end, BAD: no hour", BAD, QUIET, x -> x.end(0, -1));
        refused("36 end, CAST: a BAR", CAST, QUIET, x -> x.end(3, 1));
        refused("36 end, CAST: a BROKEN BAR", CAST, x -> {
            quiet(x);
            x.happen(4, 1, 1);
        }, x -> x.end(3, 1));
        refused("36 end, BAD ahead of CAST", BAD, QUIET, x -> x.end(3, 10000));
        refused("36 end, NONE: its EVENT is not known", NONE, QUIET, x -> x.end(1, 14));
        refused("36 end, NONE: its EVENT has not happened", NONE, QUIET, x -> x.end(4, 9999));
        refused("36 end, NONE: its TERM is not broken", NONE, QUIET, x -> x.end(2, 20));
        refused("36 end, BAD ahead of NONE", BAD, QUIET, x -> x.end(4, 10000));
        refused("37 owes, BAD: no HOUSE", BAD, QUIET, x -> x.owes(4, 1));
        refused("37 owes, BAD: no hour", BAD, QUIET, x -> x.owes(0, 10000));
    }

    private static void rows() {
        refused("38 row, BAD: no place", BAD, QUIET, x -> x.row(8, 1));
        refused("38 row, BAD: below 0", BAD, QUIET, x -> x.row(0, -1));
        refused("38 row, BAD: above 999", BAD, QUIET, x -> x.row(0, 1000));
        refused("40 proof, BAD: no place", BAD, QUIET, x -> x.proof(-1, 0));
        refused("40 proof, BAD: no part", BAD, QUIET, x -> x.proof(0, 3));
        refused("41 proves, BAD: no place", BAD, QUIET, x -> x.proves(8, 0, 0, 0, 0));
        refused("41 proves, BAD: the number", BAD, QUIET, x -> x.proves(0, 9973, 0, 0, 0));
        refused("41 proves, BAD: part 0", BAD, QUIET, x -> x.proves(0, 0, 9973, 0, 0));
        refused("41 proves, BAD: part 1", BAD, QUIET, x -> x.proves(0, 0, 0, -1, 0));
        refused("41 proves, BAD: part 2", BAD, QUIET, x -> x.proves(0, 0, 0, 0, 9973));
    }

    private static void sheets() {
        refused("42 sheet, BAD: no SHEET", BAD, QUIET, x -> x.sheet(4, 0, 1));
        refused("42 sheet, BAD: no LANE", BAD, QUIET, x -> x.sheet(0, 3, 1));
        refused("42 sheet, BAD: n above 12", BAD, QUIET, x -> x.sheet(0, 1, 13));
        refused("42 sheet, SIZE: n below 0", SIZE, QUIET, x -> x.sheet(0, 1, -1));
        refused("42 sheet, SIZE: n below 0, where nothing is", SIZE, QUIET, x -> x.sheet(3, 1, -1));
        refused("42 sheet, BAD ahead of SIZE: no SHEET", BAD, QUIET, x -> x.sheet(-1, 0, -1));
        refused("42 sheet, BAD ahead of SIZE: no LANE", BAD, QUIET, x -> x.sheet(0, 3, -1));
        refused("43 drop, BAD: no SHEET", BAD, QUIET, x -> x.drop(4));
        refused("43 drop, NULL: nothing at first", NULL, QUIET, x -> x.drop(3));
        refused("43 drop, NULL: nothing any more", NULL, x -> {
            quiet(x);
            x.drop(0);
        }, x -> x.drop(0));
    }

    private static void items() {
        refused("44 item, BAD: no SHEET", BAD, QUIET, x -> x.item(4, 1, 0, 5));
        refused("44 item, BAD: no LANE", BAD, QUIET, x -> x.item(0, 3, 0, 5));
        refused("44 item, NULL", NULL, QUIET, x -> x.item(3, 0, 0, 5));
        refused("44 item, NULL: dropped", NULL, x -> {
            quiet(x);
            x.drop(0);
        }, x -> x.item(0, 1, 0, 5));
        for (int lane = 0; lane < 3; lane++) {
            for (int other = 0; other < 3; other++) {
                int of = lane;
                int as = other;
                Setup setup = x -> {
                    quiet(x);
                    x.sheet(3, of, 7);
                };
                if (of != as) {
                    refused("44 item, CAST: " + of + " as " + as, CAST, setup, x -> x.item(3, as, 0, 5));
                    refused("45 wishes, CAST: " + of + " as " + as, CAST, setup, x -> x.wishes(0, 3, as, 0));
                }
            }
        }
        refused("44 item, INDEX: below 0", INDEX, QUIET, x -> x.item(0, 1, -1, 5));
        refused("44 item, INDEX: as many as there are", INDEX, QUIET, x -> x.item(0, 1, 7, 5));
        refused("44 item, INDEX: the 13th of 12", INDEX, QUIET, x -> x.item(1, 0, 12, 5));
        refused("44 item, INDEX: of no items", INDEX, QUIET, x -> x.item(2, 2, 0, 5));
        refused("44 item, BAD ahead of NULL", BAD, QUIET, x -> x.item(3, 3, 0, 5));
        refused("44 item, BAD ahead of INDEX", BAD, QUIET, x -> x.item(0, -1, 7, 5));
        refused("44 item, NULL ahead of INDEX", NULL, QUIET, x -> x.item(3, 0, -1, 5));
        refused("44 item, CAST ahead of INDEX", CAST, QUIET, x -> x.item(0, 0, -1, 5));
    }

    private static void wishes() {
        refused("45 wishes, BAD: no HOUSE", BAD, QUIET, x -> x.wishes(4, 0, 1, 0));
        refused("45 wishes, BAD: no SHEET", BAD, QUIET, x -> x.wishes(0, 4, 1, 0));
        refused("45 wishes, BAD: no LANE", BAD, QUIET, x -> x.wishes(0, 0, 3, 0));
        refused("45 wishes, NOT: a TALK is OPEN", NOT, OPEN, x -> x.wishes(0, 0, 1, 0));
        refused("45 wishes, NOT: a TALK of others is OPEN", NOT, OPEN, x -> x.wishes(3, 0, 1, 0));
        refused("45 wishes, NULL", NULL, QUIET, x -> x.wishes(0, 3, 1, 0));
        refused("45 wishes, INDEX: from below 0", INDEX, QUIET, x -> x.wishes(0, 0, 1, -1));
        refused("45 wishes, INDEX: five are left", INDEX, QUIET, x -> x.wishes(0, 1, 0, 7));
        refused("45 wishes, INDEX: none are left", INDEX, QUIET, x -> x.wishes(0, 1, 0, 12));
        refused("45 wishes, INDEX: of no items", INDEX, QUIET, x -> x.wishes(0, 2, 2, 0));
        refused("45 wishes, NOT: the last one is 100", NOT, QUIET, x -> x.wishes(0, 0, 1, 1));
        refused("45 wishes, BAD ahead of NOT", BAD, OPEN, x -> x.wishes(4, 0, 1, 0));
        refused("45 wishes, BAD ahead of NULL", BAD, QUIET, x -> x.wishes(4, 3, 1, 0));
        refused("45 wishes, BAD ahead of CAST", BAD, QUIET, x -> x.wishes(4, 0, 0, 0));
        refused("45 wishes, NOT (OPEN) ahead of NULL", NOT, OPEN, x -> x.wishes(0, 3, 1, 0));
        refused("45 wishes, NOT (OPEN) ahead of CAST", NOT, OPEN, x -> x.wishes(0, 0, 0, 0));
        refused("45 wishes, NOT (OPEN) ahead of INDEX", NOT, OPEN, x -> x.wishes(0, 0, 1, -1));
        refused("45 wishes, NULL ahead of INDEX", NULL, QUIET, x -> x.wishes(0, 3, 1, -1));
        refused("45 wishes, CAST ahead of INDEX", CAST, QUIET, x -> x.wishes(0, 0, 2, -1));
        refused("45 wishes, CAST ahead of NOT (100)", CAST, QUIET, x -> x.wishes(0, 0, 2, 1));
        refused("45 wishes, INDEX ahead of NOT (100)", INDEX, QUIET, x -> x.wishes(0, 0, 1, 2));
    }
}
