/** Promises 42 to 45. */
public final class SheetsTest {
    private static final Check CHECK = new Check("SheetsTest");
    private static final int[] NO_SHEETS = {-1, 4, Integer.MIN_VALUE, Integer.MAX_VALUE};
    private static final int[] NO_LANES = {-1, 3, Integer.MIN_VALUE, Integer.MAX_VALUE};

    public static void main(String[] args) {
        sheet();
        drop();
        item();
        lowestBits();
        wishes();
        wishesOfAPart();
        wishesRefused();
        CHECK.covers(42, 45);
        CHECK.finish();
    }

    private static void due(String what, long got, long want) {
        CHECK.due(what, got, want);
    }

    private static void sheet() {
        BargainHall x = new BargainHall();
        due("42 no items", x.sheet(0, 0, 0), 0);
        due("42 twelve", x.sheet(3, 2, 12), 12);
        due("42 thirteen", x.sheet(3, 2, 13), BargainHall.BAD);
        due("42 -1", x.sheet(3, 2, -1), BargainHall.SIZE);
        due("42 the least", x.sheet(3, 2, Integer.MIN_VALUE), BargainHall.SIZE);
        due("42 the greatest", x.sheet(3, 2, Integer.MAX_VALUE), BargainHall.BAD);
        for (int sheet : NO_SHEETS) {
            due("42 sheet " + sheet, x.sheet(sheet, 0, -1), BargainHall.BAD);
        }
        for (int lane : NO_LANES) {
            due("42 lane " + lane, x.sheet(0, lane, -1), BargainHall.BAD);
        }
        due("42 what is refused changes nothing", x.drop(3), 12);
        due("42 a row of none is a row", x.drop(0), 0);
        x.sheet(1, 2, 6);
        x.item(1, 2, 0, 44);
        x.sheet(1, 2, 6);
        x.wishes(0, 1, 2, 0);
        due("42 a new row has 0", x.worth(0, 1), 0);
        x.sheet(1, 1, 3);
        due("42 another lane", x.item(1, 2, 0, 1), BargainHall.CAST);
        due("42 fewer items", x.item(1, 1, 3, 1), BargainHall.INDEX);
    }

    private static void drop() {
        BargainHall x = new BargainHall();
        due("43 nothing", x.drop(2), BargainHall.NULL);
        x.sheet(2, 1, 5);
        due("43 five", x.drop(2), 5);
        due("43 nothing again", x.drop(2), BargainHall.NULL);
        due("44 nothing", x.item(2, 1, 0, 0), BargainHall.NULL);
        for (int sheet : NO_SHEETS) {
            due("43 sheet " + sheet, x.drop(sheet), BargainHall.BAD);
        }
    }

    private static void item() {
        BargainHall x = new BargainHall();
        due("44 nothing", x.item(0, 0, 0, 0), BargainHall.NULL);
        due("44 nothing, ahead of index", x.item(0, 0, -1, 0), BargainHall.NULL);
        x.sheet(0, 1, 3);
        due("44 another lane", x.item(0, 0, 0, 0), BargainHall.CAST);
        due("44 another lane, ahead of index", x.item(0, 2, 9, 0), BargainHall.CAST);
        due("44 item 2", x.item(0, 1, 2, 7), 1);
        for (int i : new int[] {-1, 3, 12, Integer.MIN_VALUE, Integer.MAX_VALUE}) {
            due("44 item " + i, x.item(0, 1, i, 0), BargainHall.INDEX);
        }
        for (int sheet : NO_SHEETS) {
            due("44 sheet " + sheet, x.item(sheet, 1, 0, 0), BargainHall.BAD);
        }
        for (int lane : NO_LANES) {
            due("44 lane " + lane, x.item(0, lane, 0, 0), BargainHall.BAD);
            due("44 lane " + lane + " of nothing", x.item(1, lane, 0, 0), BargainHall.BAD);
        }
        x.sheet(0, 1, 0);
        due("44 no items", x.item(0, 1, 0, 0), BargainHall.INDEX);
    }

    /** What an item of a lane becomes: its worth as a wish, or NOT. */
    private static void becomes(int lane, int v, int worth, int answer) {
        BargainHall x = new BargainHall();
        x.sheet(0, lane, 6);
        due("44 item", x.item(0, lane, 0, v), 1);
        due("45 of " + v + " in lane " + lane, x.wishes(0, 0, lane, 0), answer);
        due("44 " + v + " in lane " + lane, x.worth(0, 1), worth);
    }

    private static void lowestBits() {
        becomes(0, 256 + 99, 99, 6);
        becomes(0, 255, -1, 6);
        becomes(0, 157, -99, 6);
        becomes(0, 156, 0, BargainHall.NOT);
        becomes(0, 127, 0, BargainHall.NOT);
        becomes(0, Integer.MIN_VALUE, 0, 6);
        becomes(1, 255, 0, BargainHall.NOT);
        becomes(1, 65536 + 5, 5, 6);
        becomes(1, 65535, -1, 6);
        becomes(1, 32768, 0, BargainHall.NOT);
        becomes(2, 65535, 0, BargainHall.NOT);
        becomes(2, -99, -99, 6);
        becomes(2, 99, 99, 6);
        becomes(2, 100, 0, BargainHall.NOT);
        becomes(2, -100, 0, BargainHall.NOT);
        becomes(2, Integer.MIN_VALUE, 0, BargainHall.NOT);
    }

    private static void wishes() {
        BargainHall x = new BargainHall();
        Check.wish(x, 1, "ab9;!c");
        x.type(97, 1);
        x.sheet(2, 0, 6);
        int[] numbers = {1, -2, 4, -8, 16, -32};
        for (int i = 0; i < 6; i++) {
            x.item(2, 0, i, numbers[i]);
        }
        due("45 wishes", x.wishes(1, 2, 0, 0), 6);
        due("45 clauses", x.told(1, 5), 6);
        for (int set = 0; set < 64; set++) {
            int sum = 0;
            for (int i = 0; i < 6; i++) {
                sum += (set >> i & 1) * numbers[i];
            }
            due("45 worth of " + set, x.worth(1, set), sum);
            due("45 nothing is barred", x.barred(1, set), 0);
        }
        due("45 of another", x.told(0, 5), 0);
        due("45 the tape stays", x.type(49, 1), 2);
        x.item(2, 0, 0, 50);
        due("45 the wish is told once", x.worth(1, 1), 1);
    }

    private static void wishesOfAPart() {
        BargainHall x = new BargainHall();
        x.sheet(0, 2, 12);
        for (int i = 0; i < 12; i++) {
            x.item(0, 2, i, i == 5 ? 1000 : i);
        }
        due("45 from 6", x.wishes(0, 0, 2, 6), 6);
        due("45 the first is item 6", x.worth(0, 1), 6);
        due("45 the last is item 11", x.worth(0, 32), 11);
        due("45 from 0: one is 1000", x.wishes(0, 0, 2, 0), BargainHall.NOT);
        due("45 from 5: one is 1000", x.wishes(0, 0, 2, 5), BargainHall.NOT);
        due("45 the wish stays", x.worth(0, 32), 11);
        x.item(0, 2, 11, 100);
        due("45 from 6: the last is 100", x.wishes(0, 0, 2, 6), BargainHall.NOT);
        x.item(0, 2, 11, -100);
        due("45 from 6: the last is -100", x.wishes(0, 0, 2, 6), BargainHall.NOT);
        x.item(0, 2, 11, 0);
        x.item(0, 2, 6, 100);
        due("45 from 6: the first is 100", x.wishes(0, 0, 2, 6), BargainHall.NOT);
        x.sheet(1, 2, 6);
        due("45 of another sheet", x.wishes(0, 1, 2, 0), 6);
        x.item(1, 2, 3, 100);
        x.sheet(0, 2, 6);
        due("45 of another sheet: one is 100", x.wishes(0, 1, 2, 0), BargainHall.NOT);
        due("45 of its own number's sheet", x.wishes(0, 0, 2, 0), 6);
        due("45 from 7", x.wishes(0, 0, 2, 7), BargainHall.INDEX);
        due("45 from -1", x.wishes(0, 0, 2, -1), BargainHall.INDEX);
        due("45 from the least", x.wishes(0, 0, 2, Integer.MIN_VALUE), BargainHall.INDEX);
        due("45 from the greatest", x.wishes(0, 0, 2, Integer.MAX_VALUE), BargainHall.INDEX);
        x.sheet(0, 2, 5);
        due("45 five items", x.wishes(0, 0, 2, 0), BargainHall.INDEX);
    }

    private static void wishesRefused() {
        BargainHall x = new BargainHall();
        due("45 nothing", x.wishes(0, 0, 0, -1), BargainHall.NULL);
        x.sheet(0, 1, 2);
        due("45 another lane", x.wishes(0, 0, 0, -1), BargainHall.CAST);
        for (int bad : NO_SHEETS) {
            due("45 house " + bad, x.wishes(bad, 0, 1, 0), BargainHall.BAD);
            due("45 sheet " + bad, x.wishes(0, bad, 1, 0), BargainHall.BAD);
        }
        for (int lane : NO_LANES) {
            due("45 lane " + lane, x.wishes(0, 0, lane, 0), BargainHall.BAD);
        }
        x.talk(0, 1, 5);
        due("45 a talk is open", x.wishes(0, 1, 1, 0), BargainHall.NOT);
        due("45 a talk is open, BAD first", x.wishes(4, 1, 1, 0), BargainHall.BAD);
        due("42 a talk does not matter", x.sheet(0, 1, 6), 6);
        due("44 a talk does not matter", x.item(0, 1, 0, 6), 1);
        x.walk();
        due("45 then", x.wishes(0, 0, 1, 0), 6);
    }
}
