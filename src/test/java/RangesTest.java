import java.lang.reflect.Method;
import java.util.Arrays;

/** Every number that a call takes: at both its edges it is taken, one beyond them and far beyond them it is refused. */
public final class RangesTest {
    private static final Check CHECK = new Check("RangesTest");
    private static final long BAD = BargainHall.BAD, INDEX = BargainHall.INDEX, SIZE = BargainHall.SIZE;
    private static final long LOWER_BAD = -10001;
    private static final long LOWEST_BAD = -2147483649L;

    private static final Range HOUSE = within(0, 3), THING = within(0, 5), SET = within(0, 63), PRICE = within(-999, 999);
    private static final Range HOUR = within(0, 9999), EVENT = within(0, 9), DEBT = within(1, 999), HOURS_MORE = within(0, 999);
    private static final Range SUM = within(0, 9972), PLACE = within(0, 7), SHEET = within(0, 3), LANE = within(0, 2);
    /** A HOUSE of two, where the other one is 1, or 0. */
    private static final Range NOT_1 = new Range(0, 3, null, null, 1), NOT_0 = new Range(1, 3, null, null, 0);
    private static final Range FREE = within(Integer.MIN_VALUE, Integer.MAX_VALUE);

    private interface Setup {
        void on(BargainHall x);
    }

    /** Refused below and above by the call's BAD, if nothing else is told; the number without is refused, too. */
    private record Range(long least, long most, Long below, Long above, int without) { }

    public static void main(String[] args) throws Exception {
        wishes();
        bytes();
        talks();
        words();
        groups();
        terms();
        stateOfTerms();
        rows();
        sheets();
        // 1, 17 to 20, 25, 26, 28, 39 take no number
        CHECK.covers(2, 16);
        CHECK.covers(21, 24);
        CHECK.covers(27, 27);
        CHECK.covers(29, 38);
        CHECK.covers(40, 45);
        CHECK.finish();
    }

    private static Range within(long least, long most) {
        return new Range(least, most, null, null, -1);
    }

    private static Range within(long least, long most, long below, long above) {
        return new Range(least, most, below, above, -1);
    }

    private static long[] args(long... numbers) {
        return numbers;
    }

    /** Goes through one number after the other, while the others are as given. */
    private static void ranges(int promise, String name, long bad, Setup setup, long[] given, Range... ranges) throws Exception {
        for (int at = 0; at < ranges.length; at++) {
            Range r = ranges[at];
            long below = r.below == null ? bad : r.below;
            long above = r.above == null ? bad : r.above;
            String what = promise + " " + name + ", number " + at + " of its numbers, as ";
            taken(what, name, below, above, setup, with(given, at, r.least));
            taken(what, name, below, above, setup, with(given, at, r.most));
            if (r.without >= 0) {
                CHECK.due(what + r.without, answer(name, setup, with(given, at, r.without)), bad);
            }
            for (long v : new long[] {r.least - 1, r.least - 2, Integer.MIN_VALUE}) {
                if (v >= Integer.MIN_VALUE && v < r.least) {
                    CHECK.due(what + v, answer(name, setup, with(given, at, v)), below);
                }
            }
            for (long v : new long[] {r.most + 1, r.most + 2, Integer.MAX_VALUE}) {
                if (v <= Integer.MAX_VALUE && v > r.most) {
                    CHECK.due(what + v, answer(name, setup, with(given, at, v)), above);
                }
            }
        }
    }

    /** The same for a call that takes two HOUSES first, which are not one. */
    private static void rangesOfTwo(int promise, String name, long bad, Setup setup, long[] rest, Range... ranges) throws Exception {
        long[] given = new long[2 + rest.length];
        System.arraycopy(rest, 0, given, 2, rest.length);
        Range[] all = new Range[2 + ranges.length];
        System.arraycopy(ranges, 0, all, 2, ranges.length);
        for (int first = 0; first < 2; first++) {
            given[0] = first;
            given[1] = 1 - first;
            all[first] = NOT_1;
            all[1 - first] = NOT_0;
            ranges(promise, name, bad, setup, given, all);
        }
    }

    private static void taken(String what, String name, long below, long above, Setup setup, long[] given) throws Exception {
        long answer = answer(name, setup, given);
        CHECK.holds(what + Arrays.toString(given) + " is taken: " + answer, answer != below && answer != above);
    }

    private static long[] with(long[] given, int at, long v) {
        long[] changed = given.clone();
        changed[at] = v;
        return changed;
    }

    private static long answer(String name, Setup setup, long[] given) throws Exception {
        BargainHall x = new BargainHall();
        setup.on(x);
        for (Method m : BargainHall.class.getMethods()) {
            if (m.getName().equals(name) && m.getDeclaringClass() == BargainHall.class) {
                Object[] boxed = new Object[given.length];
                for (int i = 0; i < given.length; i++) {
                    boxed[i] = m.getParameterTypes()[i] == long.class ? (Object) given[i] : (Object) (int) given[i];
                }
                return ((Number) m.invoke(x, boxed)).longValue();
            }
        }
        throw new IllegalStateException("no call " + name);
    }

    private static void aNewOne(BargainHall x) {
    }

    private static void wishes() throws Exception {
        Setup setup = RangesTest::aNewOne;
        Setup text = x -> Check.type(x, "a1");
        ranges(2, "own", BAD, setup, args(0, 1), THING, HOUSE);
        ranges(3, "coins", BAD, setup, args(0, 1), HOUSE, within(0, 9999));
        ranges(4, "type", BAD, setup, args(0x6161616161616161L, 1), within(32, 126), within(1, 8));
        ranges(5, "wish", BAD, text, args(0), HOUSE);
        ranges(6, "worth", LOWER_BAD, setup, args(0, 0), HOUSE, SET);
        ranges(7, "barred", BAD, setup, args(0, 0), HOUSE, SET);
        ranges(8, "told", BAD, setup, args(0, 0), HOUSE, within(0, 5));
        ranges(9, "set", BAD, setup, args(0, 0, 5), HOUSE, within(0, 2), within(0, 999));
        ranges(9, "set", BAD, setup, args(0, 1, 5), HOUSE, within(0, 2), within(0, 999));
        ranges(9, "set", BAD, setup, args(0, 2, 5), HOUSE, within(0, 2), within(0, 99));
        rangesOfTwo(10, "gain", LOWER_BAD, setup, args(0, 0, 0), SET, PRICE, within(0, 1));
        rangesOfTwo(11, "good", BAD, setup, args(0, 0), SET, PRICE);
        rangesOfTwo(12, "best", LOWER_BAD, setup, args(0), within(0, 3));
    }

    /** Each of the bytes that count is looked at, and none beyond these. */
    private static void bytes() throws Exception {
        for (int n = 1; n <= 8; n++) {
            for (int place = 0; place < 8; place++) {
                for (int v : new int[] {0, 31, 32, 126, 127, 128, 255}) {
                    long w = 0x6161616161616161L & ~(255L << 8 * place) | (long) v << 8 * place;
                    boolean isBad = place < n && (v < 32 || v > 126);
                    CHECK.due("4 byte " + v + " at " + place + " of " + n, new BargainHall().type(w, n), isBad ? BAD : n);
                }
            }
        }
    }

    /** HOUSE 0 talks with 1, which has all THINGS. */
    private static void open(BargainHall x) {
        for (int thing = 0; thing < 6; thing++) {
            x.own(thing, 1);
        }
        x.talk(0, 1, 20);
    }

    private static void talks() throws Exception {
        Setup setup = RangesTest::aNewOne;
        Setup open = RangesTest::open;
        rangesOfTwo(13, "talk", BAD, setup, args(5), within(1, 20));
        ranges(14, "talks", BAD, open, args(0), within(0, 2));
        ranges(15, "ask", BAD, open, args(0), THING);
        ranges(16, "offer", BAD, open, args(0, 0), SET, PRICE);
    }

    private static void words() throws Exception {
        Setup three = x -> {
            x.own(5, 2);
            x.own(4, 2);
            x.own(0, 1);
            x.talk(0, 1, 20);
            x.says();
            x.says();
            x.says();
        };
        Setup twenty = x -> {
            x.talk(0, 1, 20);
            for (int i = 0; i < 20; i++) {
                x.offer(0, 0);
            }
        };
        ranges(21, "word", BAD, three, args(0, 0), within(0, 2), within(0, 1));
        ranges(21, "word", BAD, twenty, args(0, 0), within(0, 19), within(0, 1));
        ranges(22, "offered", LOWER_BAD, three, args(0, 0), within(0, 2), within(0, 1));
        ranges(22, "offered", LOWER_BAD, twenty, args(0, 1), within(0, 19), within(0, 1));
        ranges(23, "learnt", BAD, three, args(0, 0), within(0, 1), within(0, 2));
        ranges(23, "learnt", BAD, three, args(1, 0), within(0, 1), within(0, 1));
    }

    private static void groups() throws Exception {
        Setup setup = RangesTest::aNewOne;
        ranges(24, "value", LOWER_BAD, setup, args(1), within(1, 15));
        ranges(27, "share", LOWEST_BAD, setup, args(0), HOUSE);
    }

    /** A DUE, an IF and a MEND of it. */
    private static void threeTerms(BargainHall x) {
        x.due(0, 1, 5, 5);
        x.when(0, 1, 5, 5, 5);
        x.mend(0, 1, 5, 1, 5);
    }

    private static void terms() throws Exception {
        Setup setup = RangesTest::aNewOne;
        Setup terms = RangesTest::threeTerms;
        rangesOfTwo(29, "due", BAD, setup, args(5, 5), DEBT, HOUR);
        rangesOfTwo(30, "when", BAD, setup, args(5, 5, 5), DEBT, EVENT, HOURS_MORE);
        rangesOfTwo(31, "mend", BAD, terms, args(5, 0, 5), DEBT, within(0, 2), HOURS_MORE);
        ranges(32, "bar", BAD, setup, args(0, 0), HOUSE, EVENT);
        // the last two: no hour below the one at which it happened
        ranges(33, "happen", BAD, setup, args(0, 0, 9999), EVENT, HOUR, HOUR);
        ranges(33, "happen", BAD, setup, args(0, 70, 70), EVENT, within(0, 70), within(70, 9999));
    }

    private static void stateOfTerms() throws Exception {
        Setup terms = RangesTest::threeTerms;
        ranges(34, "pay", BAD, terms, args(0, 0), within(0, 2), HOUR);
        ranges(35, "state", BAD, terms, args(0, 0), within(0, 2), HOUR);
        ranges(36, "end", BAD, terms, args(0, 0), within(0, 2), HOUR);
        ranges(37, "owes", BAD, terms, args(0, 0), HOUSE, HOUR);
        Setup full = x -> {
            for (int i = 0; i < 16; i++) {
                x.due(0, 1, 5, 5);
            }
        };
        ranges(34, "pay", BAD, full, args(0, 0), within(0, 15), HOUR);
        ranges(35, "state", BAD, full, args(0, 0), within(0, 15), HOUR);
        ranges(36, "end", BAD, full, args(0, 0), within(0, 15), HOUR);
        rangesOfTwo(31, "mend", BAD, full, args(5, 0, 5), DEBT, within(0, 15), HOURS_MORE);
    }

    private static void rows() throws Exception {
        Setup setup = RangesTest::aNewOne;
        ranges(38, "row", BAD, setup, args(0, 0), PLACE, within(0, 999));
        ranges(40, "proof", BAD, setup, args(0, 0), PLACE, within(0, 2));
        ranges(41, "proves", BAD, setup, args(0, 0, 0, 0, 0), PLACE, SUM, SUM, SUM, SUM);
    }

    private static void sheets() throws Exception {
        Setup setup = RangesTest::aNewOne;
        ranges(42, "sheet", BAD, setup, args(0, 0, 5), SHEET, LANE, within(0, 12, SIZE, BAD));
        for (int lane = 0; lane < 3; lane++) {
            int ofLane = lane;
            Setup all = x -> {
                for (int sheet = 0; sheet < 4; sheet++) {
                    x.sheet(sheet, ofLane, 8);
                }
            };
            ranges(43, "drop", BAD, all, args(0), SHEET);
            ranges(44, "item", BAD, all, args(0, lane, 0, 0), SHEET, LANE, within(0, 7, INDEX, INDEX), FREE);
            ranges(45, "wishes", BAD, all, args(0, 0, lane, 0), HOUSE, SHEET, LANE, within(0, 2, INDEX, INDEX));
        }
    }
}
