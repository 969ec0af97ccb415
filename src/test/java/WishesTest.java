/** Promises 1 to 12. */
public final class WishesTest {
    private static final Check CHECK = new Check("WishesTest");
    private static final int[] NO_HOUSES = {-1, 4, Integer.MIN_VALUE, Integer.MAX_VALUE};
    private static final int[] NO_SETS = {-1, 64, Integer.MIN_VALUE, Integer.MAX_VALUE};

    public static void main(String[] args) {
        aNewObject();
        objectsApart();
        own();
        coins();
        type();
        wishes();
        faults();
        faultsAndTheTape();
        fullTape();
        worthAndBarred();
        told();
        set();
        gain();
        good();
        goodThen();
        best();
        bestOfWhatMayBe();
        noBest();
        closedWhileOpen();
        CHECK.covers(1, 12);
        CHECK.finish();
    }

    private static void due(String what, long got, long want) {
        CHECK.due(what, got, want);
    }

    private static void aNewObject() {
        BargainHall x = new BargainHall();
        due("1 things of 0", x.told(0, 0), 63);
        for (int house = 0; house < 4; house++) {
            due("1 coins", x.told(house, 1), 1000);
            due("1 mandate", x.told(house, 2), 0);
            due("1 start", x.told(house, 3), 100);
            due("1 down", x.told(house, 4), 10);
            due("1 clauses", x.told(house, 5), 0);
            due("1 worth", x.worth(house, 63), 0);
            due("1 barred", x.barred(house, 63), 0);
        }
        due("1 no talk", x.talks(0), 0);
        due("1 no terms", x.state(0, 0), BargainHall.BAD);
        due("1 rows are 0", x.row(3, 0), 0);
        due("1 no sheets", x.drop(3), BargainHall.NULL);
    }

    /** What one object is told, another one does not know. */
    private static void objectsApart() {
        BargainHall other = new BargainHall();
        BargainHall x = new BargainHall();
        x.own(0, 1);
        x.coins(0, 1);
        x.set(0, 0, 1);
        Check.wish(x, 0, "a1;!a");
        x.type(97, 1);
        x.due(0, 1, 1, 1);
        x.happen(0, 1, 1);
        x.row(0, 1);
        x.sheet(0, 0, 1);
        x.talk(0, 1, 1);
        due("1 things", other.told(0, 0), 63);
        due("1 coins", other.told(0, 1), 1000);
        due("1 mandate", other.told(0, 2), 0);
        due("1 clauses", other.told(0, 5), 0);
        due("1 worth", other.worth(0, 1), 0);
        due("1 barred", other.barred(0, 1), 0);
        due("1 the tape", other.type(97, 1), 1);
        due("1 no terms", other.due(0, 1, 1, 1), 0);
        due("1 no event", other.happen(0, 1, 1), 1);
        due("1 the row", other.row(0, 1), 0);
        due("1 no sheet", other.drop(0), BargainHall.NULL);
        due("1 no talk", other.talks(0), 0);
    }

    private static void own() {
        BargainHall x = new BargainHall();
        due("2 own(5, 3)", x.own(5, 3), 0);
        due("2 own(5, 3) again", x.own(5, 3), 3);
        due("2 own(5, 1)", x.own(5, 1), 3);
        due("2 own(0, 1)", x.own(0, 1), 0);
        due("2 things of 0", x.told(0, 0), 0b011110);
        due("2 things of 1", x.told(1, 0), 0b100001);
        due("2 things of 3", x.told(3, 0), 0);
        due("2 own(6, 0)", x.own(6, 0), BargainHall.BAD);
        due("2 own(-1, 0)", x.own(-1, 0), BargainHall.BAD);
        for (int house : NO_HOUSES) {
            due("2 own(0, " + house + ")", x.own(0, house), BargainHall.BAD);
        }
        due("2 nothing changed", x.told(1, 0), 0b100001);
    }

    private static void coins() {
        BargainHall x = new BargainHall();
        due("3 coins(2, 0)", x.coins(2, 0), 1000);
        due("3 coins(2, 9999)", x.coins(2, 9999), 0);
        due("3 coins(2, 10000)", x.coins(2, 10000), BargainHall.BAD);
        due("3 coins(2, -1)", x.coins(2, -1), BargainHall.BAD);
        due("3 what it was", x.coins(2, 7), 9999);
        due("3 another's", x.told(1, 1), 1000);
        for (int house : NO_HOUSES) {
            due("3 coins of " + house, x.coins(house, 1), BargainHall.BAD);
        }
    }

    private static void type() {
        BargainHall x = new BargainHall();
        due("4 n 0", x.type(97, 0), BargainHall.BAD);
        due("4 n 9", x.type(97, 9), BargainHall.BAD);
        due("4 n -1", x.type(97, -1), BargainHall.BAD);
        due("4 n 9 of good bytes", x.type(0x6161616161616161L, 9), BargainHall.BAD);
        due("4 n 16 of good bytes", x.type(0x6161616161616161L, 16), BargainHall.BAD);
        due("4 byte 31", x.type(31, 1), BargainHall.BAD);
        due("4 byte 127", x.type(127, 1), BargainHall.BAD);
        due("4 byte 255", x.type(-1L, 8), BargainHall.BAD);
        due("4 byte 0 of two", x.type(97, 2), BargainHall.BAD);
        due("4 higher bytes do not count", x.type(0x7f61L, 1), 1);
        due("4 byte 32", x.type(32, 1), 2);
        due("4 byte 126", x.type(126, 1), 3);
        for (int i = 0; i < 10; i++) {
            due("4 eight more", x.type(0x2020202020202020L, 8), 11 + 8 * i);
        }
        due("4 above 90", x.type(0x2020202020202020L, 8), BargainHall.FULL);
        due("4 above 90, BAD first", x.type(0x2020202020202000L, 8), BargainHall.BAD);
        due("4 just 90", x.type(0x20202020202020L, 7), 90);
        due("4 91", x.type(32, 1), BargainHall.FULL);
        due("4 the ~ can't stand", x.wish(0), -22);
        due("4 empty then", x.type(97, 1), 1);

        BargainHall y = new BargainHall();
        due("4 the highest first", y.type(0x61623132L, 4), 4);
        due("4 a wish of it", y.wish(0), 1);
        due("4 ab12", y.worth(0, 3), 12);
    }

    private static void wishes() {
        BargainHall x = new BargainHall();
        due("5 one", Check.wish(x, 1, "a1"), 1);
        due("5 told", x.told(1, 5), 1);
        due("5 a new one for the old", Check.wish(x, 1, "b2;b-3;!abcdef;abcdef99"), 4);
        due("5 the old is gone", x.worth(1, 1), 0);
        due("5 together", x.worth(1, 2), -1);
        due("5 all", x.worth(1, 63), 98);
        due("5 barred", x.barred(1, 63), 1);
        due("5 not barred", x.barred(1, 62), 0);
        due("5 blanks", Check.wish(x, 2, "  a  b  -  7  ;  !  c  d  "), 2);
        due("5 blanks: worth", x.worth(2, 3), -7);
        due("5 blanks: barred", x.barred(2, 12), 1);
        due("5 twelve", Check.wish(x, 3, "a1;a1;a1;a1;a1;a1;a1;a1;a1;a1;a1;a1"), 12);
        due("5 twelve: worth", x.worth(3, 1), 12);
        due("5 0, -0, 99, leading 0", Check.wish(x, 3, "a0;b-0;c99;d-99;e007;f0000000000000000000012"), 6);
        due("5 leading 0: worth", x.worth(3, 16 + 32), 19);
        due("5 c, d", x.worth(3, 4) - x.worth(3, 8), 198);
        for (int house : NO_HOUSES) {
            due("5 wish of " + house, x.wish(house), BargainHall.BAD);
        }
    }

    private static void fault(String text, int place) {
        BargainHall x = new BargainHall();
        due("5 fault of '" + text + "'", Check.wish(x, 0, text), -20 - place);
        due("5 the wish stays", x.told(0, 5), 0);
    }

    private static void faults() {
        fault("", 0);
        fault("   ", 3);
        fault("a", 1);
        fault("a ", 2);
        fault("g1", 0);
        fault("A1", 0);
        fault("1", 0);
        fault(";", 0);
        fault("-1", 0);
        fault("ba1", 1);
        fault("aa1", 1);
        fault("ace b1", 4);
        fault("abcdeff1", 6);
        fault("a;", 1);
        fault("a--1", 2);
        fault("a-", 2);
        fault("a-;", 2);
        fault("a1;", 3);
        fault("a1; ", 4);
        fault("a1;;b1", 3);
        fault("a1b1", 2);
        fault("a1-", 2);
        fault("a1 2", 3);
        fault("a1  b", 4);
        fault("a1;b!c", 4);
        fault("!", 1);
        fault("!1", 1);
        fault("!!a", 1);
        fault("!a1", 2);
        fault("!a-1", 2);
        fault("!a!b", 2);
        fault("!ab;", 4);
        fault("! ", 2);
        fault("a100", 1);
        fault("a  100x", 3);
        fault("a-100", 2);
        fault("a 0100", 2);
        fault("a4294967296", 1);
        fault("a4294967297;b1", 1);
        fault("a1;b99999999999999999999999999999999", 4);
        fault("a100 1", 1);
        fault("a10 0", 4);
        fault("a1;a1;a1;a1;a1;a1;a1;a1;a1;a1;a1;a1;", 35);
        fault("a1;a1;a1;a1;a1;a1;a1;a1;a1;a1;a1;a1 ;a1", 36);
        fault("a1;a1;a1;a1;a1;a1;a1;a1;a1;a1;a1;a1x", 35);
    }

    private static void faultsAndTheTape() {
        BargainHall x = new BargainHall();
        Check.wish(x, 0, "ab5;!c");
        due("5 a fault", Check.wish(x, 0, "d7;x"), -23);
        due("5 the wish stays: worth", x.worth(0, 11), 5);
        due("5 the wish stays: barred", x.barred(0, 4), 1);
        due("5 the wish stays: told", x.told(0, 5), 2);
        due("5 the tape is empty behind a fault", x.type(97, 1), 1);
        due("5 BAD", x.wish(4), BargainHall.BAD);
        due("5 the tape stays behind BAD", x.type(49, 1), 2);
        due("5 its wish", x.wish(0), 1);
        x.talk(0, 1, 5);
        x.type(97, 1);
        due("5 NOT", x.wish(0), BargainHall.NOT);
        due("5 BAD first", x.wish(4), BargainHall.BAD);
        x.walk();
        due("5 the tape stays behind NOT", x.type(55, 1), 2);
        due("5 its wish then", x.wish(1), 1);
        due("5 a7", x.worth(1, 1), 7);
    }

    /** A text of so many blanks and a rest behind them. */
    private static String behindBlanks(int blanks, String rest) {
        return " ".repeat(blanks) + rest;
    }

    private static void fullTape() {
        BargainHall x = new BargainHall();
        due("5 a wish of 90 bytes", Check.wish(x, 0, behindBlanks(88, "f9")), 1);
        due("5 its worth", x.worth(0, 32), 9);
        due("5 twelve clauses in 90 bytes", Check.wish(x, 1, "abcd-99;".repeat(11) + "a1"), 12);
        due("5 their worth", x.worth(1, 15), 1 - 11 * 99);
        fault(behindBlanks(90, ""), 90);
        fault(behindBlanks(89, "f"), 90);
        fault(behindBlanks(89, "~"), 89);
        fault(behindBlanks(86, "f100"), 87);
        fault(behindBlanks(87, "a1;"), 90);
        due("4 91 bytes", Check.type(x, behindBlanks(88, "f9 ")), BargainHall.FULL);
        due("5 the 88 of them that were taken", x.wish(0), -20 - 88);
    }

    private static void worthAndBarred() {
        BargainHall x = new BargainHall();
        Check.wish(x, 0, "a10;b20;ab-5;cf99;!ab;!f");
        due("6 nothing", x.worth(0, 0), 0);
        due("6 a", x.worth(0, 1), 10);
        due("6 ab, barred or not", x.worth(0, 3), 25);
        due("6 c alone", x.worth(0, 4), 0);
        due("6 cf", x.worth(0, 36), 99);
        due("6 all", x.worth(0, 63), 124);
        due("7 a", x.barred(0, 1), 0);
        due("7 ab", x.barred(0, 3), 1);
        due("7 abc", x.barred(0, 7), 1);
        due("7 f", x.barred(0, 32), 1);
        due("7 nothing", x.barred(0, 0), 0);
        due("7 of another", x.barred(1, 63), 0);
        for (int set : NO_SETS) {
            due("6 set " + set, x.worth(0, set), -10001);
            due("7 set " + set, x.barred(0, set), BargainHall.BAD);
        }
        for (int house : NO_HOUSES) {
            due("6 house " + house, x.worth(house, 1), -10001);
            due("7 house " + house, x.barred(house, 1), BargainHall.BAD);
        }
        Check.wish(x, 0, "a-99;a-99;a-99;a-99;a-99;a-99;a-99;a-99;a-99;a-99;a-99;a-99");
        due("6 the least", x.worth(0, 1), -1188);
    }

    private static void told() {
        BargainHall x = new BargainHall();
        for (int what : new int[] {-1, 6, Integer.MIN_VALUE, Integer.MAX_VALUE}) {
            due("8 what " + what, x.told(0, what), BargainHall.BAD);
        }
        for (int house : NO_HOUSES) {
            due("8 house " + house, x.told(house, 0), BargainHall.BAD);
        }
        x.own(2, 1);
        x.coins(1, 17);
        x.set(1, 0, 3);
        x.set(1, 1, 4);
        x.set(1, 2, 5);
        Check.wish(x, 1, "a1;!b");
        int[] all = {4, 17, 3, 4, 5, 2};
        for (int what = 0; what < 6; what++) {
            due("8 told(1, " + what + ")", x.told(1, what), all[what]);
        }
    }

    private static void set() {
        BargainHall x = new BargainHall();
        due("9 mandate", x.set(0, 0, 999), 0);
        due("9 mandate again", x.set(0, 0, 0), 999);
        due("9 start", x.set(0, 1, 999), 100);
        due("9 start again", x.set(0, 1, 0), 999);
        due("9 down", x.set(0, 2, 99), 10);
        due("9 down again", x.set(0, 2, 0), 99);
        due("9 mandate 1000", x.set(0, 0, 1000), BargainHall.BAD);
        due("9 start 1000", x.set(0, 1, 1000), BargainHall.BAD);
        due("9 down 100", x.set(0, 2, 100), BargainHall.BAD);
        for (int what = 0; what < 3; what++) {
            due("9 -1", x.set(0, what, -1), BargainHall.BAD);
        }
        due("9 what 3", x.set(0, 3, 0), BargainHall.BAD);
        due("9 what -1", x.set(0, -1, 0), BargainHall.BAD);
        for (int house : NO_HOUSES) {
            due("9 house " + house, x.set(house, 0, 0), BargainHall.BAD);
        }
        due("9 nothing changed", x.told(0, 2) + x.told(0, 3) + x.told(0, 4), 0);
        due("9 another's", x.told(1, 3), 100);
    }

    /** 0 has a, b; 1 has c, d; 2 has e; 3 has f. */
    private static BargainHall fourOwners() {
        BargainHall x = new BargainHall();
        x.own(2, 1);
        x.own(3, 1);
        x.own(4, 2);
        x.own(5, 3);
        Check.wish(x, 0, "a10;b20;c40;d5;ab3");
        Check.wish(x, 1, "a30;c15;d-7;cd2");
        return x;
    }

    private static void gain() {
        BargainHall x = fourOwners();
        due("10 a for c, of 0", x.gain(0, 1, 5, 0, 0), 60 - 33);
        due("10 a for c, of 1", x.gain(0, 1, 5, 0, 1), 23 - 10);
        due("10 the price, of a", x.gain(0, 1, 5, 999, 0), 27 - 999);
        due("10 the price, of b", x.gain(0, 1, 5, 999, 1), 13 + 999);
        due("10 the other way round", x.gain(1, 0, 5, -999, 0), 13 + 999);
        due("10 nothing", x.gain(0, 1, 0, -4, 0), 4);
        due("10 all", x.gain(0, 1, 15, 0, 1), 30 - 10);
        due("10 nobody's but theirs", x.gain(0, 1, 16, 0, 0), -10001);
        due("10 also in part", x.gain(0, 1, 33, 0, 0), -10001);
        due("10 one house", x.gain(1, 1, 0, 0, 0), -10001);
        due("10 price 1000", x.gain(0, 1, 0, 1000, 0), -10001);
        due("10 price -1000", x.gain(0, 1, 0, -1000, 0), -10001);
        due("10 which 2", x.gain(0, 1, 0, 0, 2), -10001);
        due("10 which -1", x.gain(0, 1, 0, 0, -1), -10001);
        for (int set : NO_SETS) {
            due("10 set " + set, x.gain(0, 1, set, 0, 0), -10001);
        }
        for (int house : NO_HOUSES) {
            due("10 a " + house, x.gain(house, 1, 0, 0, 0), -10001);
            due("10 b " + house, x.gain(1, house, 0, 0, 0), -10001);
        }
    }

    private static void good() {
        BargainHall x = fourOwners();
        due("11 good", x.good(0, 1, 5, 0), 1);
        Check.wish(x, 1, "!ad");
        due("11 barred to b then", x.good(0, 1, 5, 0), 0);
        due("11 not barred then", x.good(0, 1, 9, 0), 1);
        due("11 barred to the first one then", x.good(1, 0, 1, 0), 0);
        Check.wish(x, 1, "!c");
        due("11 barred as it is", x.good(0, 1, 0, 0), 0);
        due("11 not barred then", x.good(0, 1, 4, 0), 1);
        x.coins(0, 10);
        x.coins(1, 9990);
        due("11 10 and 9990, 9", x.good(0, 1, 4, 9), 1);
        due("11 10 and 9990, 10", x.good(0, 1, 4, 10), 0);
        x.coins(1, 9989);
        due("11 all its coins", x.good(0, 1, 4, 10), 1);
        due("11 one more than it has", x.good(0, 1, 4, 11), 0);
        x.coins(1, 5);
        due("11 b pays all", x.good(0, 1, 4, -5), 1);
        due("11 b pays more", x.good(0, 1, 4, -6), 0);
        x.coins(0, 9995);
        x.coins(1, 1000);
        due("11 a would have 9999", x.good(0, 1, 4, -4), 1);
        due("11 a would have 10000", x.good(0, 1, 4, -5), 0);
        due("11 one house", x.good(0, 0, 0, 0), BargainHall.BAD);
        due("11 things of others", x.good(0, 1, 32, 0), BargainHall.BAD);
        due("11 price 1000", x.good(0, 1, 0, 1000), BargainHall.BAD);
        due("11 price -1000", x.good(0, 1, 0, -1000), BargainHall.BAD);
        for (int set : NO_SETS) {
            due("11 set " + set, x.good(0, 1, set, 0), BargainHall.BAD);
        }
        for (int house : NO_HOUSES) {
            due("11 a " + house, x.good(house, 1, 0, 0), BargainHall.BAD);
            due("11 b " + house, x.good(1, house, 0, 0), BargainHall.BAD);
        }
    }

    /** What a HOUSE gives away does not count any more, on either side; what it gets does. */
    private static void goodThen() {
        BargainHall x = fourOwners();
        Check.wish(x, 0, "!a");
        due("11 a has a barred set and keeps it", x.good(0, 1, 2, 0), 0);
        due("11 a gives what is barred to it away", x.good(0, 1, 1, 0), 1);
        due("11 a gives what is barred to it away, and gets more", x.good(0, 1, 5, 0), 1);
        due("11 b gives what is barred to it away", x.good(1, 0, 1, 0), 1);
        Check.wish(x, 0, "!bc");
        due("11 a gets what is barred to it", x.good(0, 1, 4, 0), 0);
        due("11 a gets it and gives a part away", x.good(0, 1, 6, 0), 1);
        due("11 b gets what is barred to it", x.good(1, 0, 4, 0), 0);
        due("11 b gets it and gives a part away", x.good(1, 0, 6, 0), 1);
    }

    private static void best4(BargainHall x, int a, int b, int... wanted) {
        for (int what = 0; what < 4; what++) {
            due("12 best(" + a + ", " + b + ", " + what + ")", x.best(a, b, what), wanted[wanted.length == 1 ? 0 : what]);
        }
    }

    private static void best() {
        BargainHall x = fourOwners();
        // a for c, d: 0 comes to 65 from 33, 1 to 30 from 10
        best4(x, 0, 1, 13, 6, 26, 26);
        best4(x, 1, 0, 13, -6, 26, 26);
        best4(x, 2, 3, 0, 0, 0, 0);
        Check.wish(x, 0, "c7");
        Check.wish(x, 1, "");
        Check.wish(x, 1, "d0");
        best4(x, 0, 1, 4, 3, 4, 3);
        best4(x, 1, 0, 4, -3, 3, 4);
        due("12 one house", x.best(1, 1, 0), -10001);
        due("12 what 4", x.best(0, 1, 4), -10001);
        due("12 what -1", x.best(0, 1, -1), -10001);
        for (int house : NO_HOUSES) {
            due("12 a " + house, x.best(house, 1, 0), -10001);
            due("12 b " + house, x.best(1, house, 0), -10001);
        }
        x.set(0, 0, 3);
        x.set(1, 0, 4);
        best4(x, 0, 1, 4, 3, 4, 3);
        x.set(1, 0, 5);
        best4(x, 0, 1, -10004);
        x.set(1, 0, 4);
        x.coins(0, 3);
        best4(x, 0, 1, 4, 3, 4, 3);
        x.coins(0, 2);
        best4(x, 0, 1, -10004);
    }

    private static void bestOfWhatMayBe() {
        BargainHall x = fourOwners();
        Check.wish(x, 0, "c40;e99;f99");
        Check.wish(x, 1, "a30;e99");
        // things of 2 and 3 do not count
        best4(x, 0, 1, 5, 5, 35, 35);
        Check.wish(x, 0, "c40;!c");
        best4(x, 0, 1, 1, -15, 15, 15);
        Check.wish(x, 0, "c40");
        Check.wish(x, 1, "a30;!a");
        best4(x, 0, 1, 4, 20, 20, 20);
        best4(x, 1, 0, 4, -20, 20, 20);
        // what is barred as it is must be given away; if both together lose by that, it is below mandates of 0
        Check.wish(x, 0, "a10;!a");
        Check.wish(x, 1, "a10");
        best4(x, 0, 1, 1, -10, 0, 0);
        Check.wish(x, 1, "a9");
        best4(x, 0, 1, -10004);
    }

    /** A wish of so many times 99 (or -99) for b. */
    private static String times(int many, String number) {
        StringBuilder text = new StringBuilder();
        for (int i = 0; i < many; i++) {
            text.append(i == 0 ? "b" : ";b").append(number);
        }
        return text.toString();
    }

    private static void noBest() {
        BargainHall x = new BargainHall();
        Check.wish(x, 0, "!a");
        Check.wish(x, 1, "!a");
        best4(x, 0, 1, -10004);
        x.own(0, 2);
        best4(x, 0, 1, 0, 0, 0, 0);
        x.own(1, 1);
        x.coins(0, 5000);
        x.coins(1, 5000);
        Check.wish(x, 0, times(12, "99"));
        Check.wish(x, 1, times(12, "-99"));
        best4(x, 0, 1, 2, 0, 1188, 1188);
        Check.wish(x, 1, "b-5");
        best4(x, 0, 1, 2, 591, 597, 596);
        // the price halves 1188 and 810, or 811: 999 may be, 1000 may not
        Check.wish(x, 1, times(8, "99") + ";b18");
        best4(x, 0, 1, 2, 999, 189, 189);
        Check.wish(x, 1, times(8, "99") + ";b19");
        best4(x, 0, 1, 2, 999, 189, 188);
        Check.wish(x, 1, times(8, "99") + ";b20");
        best4(x, 0, 1, -10004);
        best4(x, 1, 0, -10004);
        Check.wish(x, 0, "!b");
        Check.wish(x, 1, "!b");
        best4(x, 0, 1, -10004);
    }

    private static void closedWhileOpen() {
        BargainHall x = new BargainHall();
        x.talk(2, 3, 1);
        due("2 own", x.own(0, 1), BargainHall.NOT);
        due("2 BAD first", x.own(6, 1), BargainHall.BAD);
        due("3 coins", x.coins(0, 1), BargainHall.NOT);
        due("3 BAD first", x.coins(0, -1), BargainHall.BAD);
        due("9 set", x.set(0, 0, 1), BargainHall.NOT);
        due("9 BAD first", x.set(0, 0, -1), BargainHall.BAD);
        due("2 nothing changed", x.told(0, 0), 63);
        due("3 nothing changed", x.told(0, 1), 1000);
        due("9 nothing changed", x.told(0, 2), 0);
        x.walk();
        due("2 own then", x.own(0, 1), 0);
        due("3 coins then", x.coins(0, 1), 1000);
        due("9 set then", x.set(0, 0, 1), 0);
    }
}
