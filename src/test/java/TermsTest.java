/** Promises 29 to 37. */
public final class TermsTest {
    private static final Check CHECK = new Check("TermsTest");
    private static final int[] NO_HOUSES = {-1, 4, Integer.MIN_VALUE, Integer.MAX_VALUE};
    private static final int[] NO_EVENTS = {-1, 10, Integer.MIN_VALUE, Integer.MAX_VALUE};
    private static final int[] NO_HOURS = {-1, 10000, Integer.MIN_VALUE, Integer.MAX_VALUE};
    private static final int[] NO_COINS = {0, 1000, -1, Integer.MIN_VALUE, Integer.MAX_VALUE};

    public static void main(String[] args) {
        due();
        when();
        mend();
        bar();
        full();
        happen();
        pay();
        payEachKind();
        payIsRefused();
        statesOfADue();
        statesOfAnIf();
        statesOfABar();
        mendsOfMends();
        paidWhileWaiting();
        hourZero();
        lastHour();
        owesMost();
        owes();
        CHECK.covers(29, 37);
        CHECK.finish();
    }

    private static void due(String what, long got, long want) {
        CHECK.due(what, got, want);
    }

    private static void due() {
        BargainHall x = new BargainHall();
        due("29 the first", x.due(0, 1, 1, 0), 0);
        due("29 the second", x.due(3, 2, 999, 9999), 1);
        due("29 one house", x.due(1, 1, 5, 5), BargainHall.BAD);
        for (int house : NO_HOUSES) {
            due("29 a " + house, x.due(house, 1, 5, 5), BargainHall.BAD);
            due("29 b " + house, x.due(1, house, 5, 5), BargainHall.BAD);
        }
        for (int coins : NO_COINS) {
            due("29 coins " + coins, x.due(0, 1, coins, 5), BargainHall.BAD);
        }
        for (int hour : NO_HOURS) {
            due("29 by " + hour, x.due(0, 1, 5, hour), BargainHall.BAD);
        }
        due("29 the third", x.due(0, 1, 5, 5), 2);
    }

    private static void when() {
        BargainHall x = new BargainHall();
        due("30 the first", x.when(0, 1, 1, 0, 0), 0);
        due("30 the second", x.when(3, 2, 999, 9, 999), 1);
        due("30 one house", x.when(1, 1, 5, 5, 5), BargainHall.BAD);
        for (int house : NO_HOUSES) {
            due("30 a " + house, x.when(house, 1, 5, 5, 5), BargainHall.BAD);
            due("30 b " + house, x.when(1, house, 5, 5, 5), BargainHall.BAD);
        }
        for (int coins : NO_COINS) {
            due("30 coins " + coins, x.when(0, 1, coins, 5, 5), BargainHall.BAD);
        }
        for (int event : NO_EVENTS) {
            due("30 event " + event, x.when(0, 1, 5, event, 5), BargainHall.BAD);
        }
        due("30 n -1", x.when(0, 1, 5, 5, -1), BargainHall.BAD);
        due("30 n 1000", x.when(0, 1, 5, 5, 1000), BargainHall.BAD);
    }

    private static void mend() {
        BargainHall x = new BargainHall();
        due("31 no term", x.mend(0, 1, 5, 0, 5), BargainHall.BAD);
        x.bar(0, 0);
        due("31 of a bar", x.mend(0, 1, 1, 0, 0), 1);
        due("31 of a mend", x.mend(0, 1, 999, 1, 999), 2);
        due("31 of itself", x.mend(0, 1, 5, 3, 5), BargainHall.BAD);
        due("31 term -1", x.mend(0, 1, 5, -1, 5), BargainHall.BAD);
        due("31 one house", x.mend(1, 1, 5, 0, 5), BargainHall.BAD);
        for (int house : NO_HOUSES) {
            due("31 a " + house, x.mend(house, 1, 5, 0, 5), BargainHall.BAD);
            due("31 b " + house, x.mend(1, house, 5, 0, 5), BargainHall.BAD);
        }
        for (int coins : NO_COINS) {
            due("31 coins " + coins, x.mend(0, 1, coins, 0, 5), BargainHall.BAD);
        }
        due("31 n -1", x.mend(0, 1, 5, 0, -1), BargainHall.BAD);
        due("31 n 1000", x.mend(0, 1, 5, 0, 1000), BargainHall.BAD);
    }

    private static void bar() {
        BargainHall x = new BargainHall();
        due("32 the first", x.bar(3, 9), 0);
        for (int house : NO_HOUSES) {
            due("32 a " + house, x.bar(house, 1), BargainHall.BAD);
        }
        for (int event : NO_EVENTS) {
            due("32 event " + event, x.bar(0, event), BargainHall.BAD);
        }
        due("32 the second", x.bar(3, 9), 1);
    }

    private static void full() {
        BargainHall x = new BargainHall();
        for (int i = 0; i < 16; i++) {
            due("29 number", x.due(0, 1, 5, i), i);
        }
        due("29 full", x.due(0, 1, 5, 5), BargainHall.FULL);
        due("30 full", x.when(0, 1, 5, 5, 5), BargainHall.FULL);
        due("31 full", x.mend(0, 1, 5, 15, 5), BargainHall.FULL);
        due("32 full", x.bar(0, 5), BargainHall.FULL);
        due("29 BAD first", x.due(0, 0, 5, 5), BargainHall.BAD);
        due("30 BAD first", x.when(0, 0, 5, 5, 5), BargainHall.BAD);
        due("31 BAD first", x.mend(0, 1, 5, 16, 5), BargainHall.BAD);
        due("32 BAD first", x.bar(4, 5), BargainHall.BAD);
        due("35 the last one", x.end(15, 0), 15);
        due("35 there is no 17th", x.state(16, 0), BargainHall.BAD);
    }

    private static void happen() {
        BargainHall x = new BargainHall();
        for (int event : NO_EVENTS) {
            due("33 event " + event, x.happen(event, 1, 1), BargainHall.BAD);
        }
        for (int hour : NO_HOURS) {
            due("33 hour " + hour, x.happen(0, hour, 9999), BargainHall.BAD);
            due("33 known " + hour, x.happen(0, 0, hour), BargainHall.BAD);
        }
        due("33 known below it", x.happen(0, 6, 5), BargainHall.BAD);
        due("33 known at once", x.happen(0, 5, 5), 1);
        due("33 it has happened", x.happen(0, 6, 6), BargainHall.NOT);
        due("33 BAD first", x.happen(0, 6, 5), BargainHall.BAD);
        due("33 the last hour", x.happen(9, 0, 9999), 1);
        x.talk(0, 1, 5);
        due("33 a talk does not matter", x.happen(1, 5, 5), 1);
        due("29 a talk does not matter", x.due(0, 1, 5, 5), 0);
    }

    private static void pay() {
        BargainHall x = new BargainHall();
        x.due(2, 3, 400, 20);
        due("34 no such term", x.pay(1, 0), BargainHall.BAD);
        due("34 term -1", x.pay(-1, 0), BargainHall.BAD);
        for (int hour : NO_HOURS) {
            due("34 hour " + hour, x.pay(0, hour), BargainHall.BAD);
        }
        due("34 paid", x.pay(0, 9999), 1400);
        due("34 coins of a", x.told(2, 1), 600);
        due("34 coins of b", x.told(3, 1), 1400);
        due("34 it is paid", x.pay(0, 0), BargainHall.NOT);
        due("34 coins stay", x.told(2, 1), 600);
    }

    private static void payEachKind() {
        BargainHall x = new BargainHall();
        x.due(0, 1, 1, 20);
        x.when(1, 2, 20, 0, 5);
        x.mend(2, 3, 300, 0, 5);
        due("34 a due", x.pay(0, 0), 1001);
        due("34 an if, ahead of its event", x.pay(1, 0), 1020);
        due("34 a mend, ahead of the break", x.pay(2, 0), 1300);
        due("34 coins of 0", x.told(0, 1), 999);
        due("34 coins of 1", x.told(1, 1), 981);
        due("34 coins of 2", x.told(2, 1), 720);
        due("34 coins of 3", x.told(3, 1), 1300);
    }

    private static void payIsRefused() {
        BargainHall x = new BargainHall();
        x.due(0, 1, 400, 20);
        x.bar(0, 3);
        due("34 a bar", x.pay(1, 0), BargainHall.CAST);
        due("34 a bar, BAD first", x.pay(1, -1), BargainHall.BAD);
        x.coins(0, 399);
        due("34 fewer coins", x.pay(0, 0), BargainHall.NOT);
        x.coins(0, 400);
        x.coins(1, 9600);
        due("34 b would have 10000", x.pay(0, 0), BargainHall.NOT);
        x.coins(1, 9599);
        x.talk(2, 3, 5);
        due("34 a talk is open", x.pay(0, 0), BargainHall.NOT);
        due("34 a bar, while a talk is open", x.pay(1, 0), BargainHall.CAST);
        x.walk();
        due("34 it owes still", x.owes(0, 0), 400);
        due("34 all its coins", x.pay(0, 0), 9999);
        due("34 none left", x.told(0, 1), 0);
    }

    private static void states(String what, BargainHall x, int term, int[][] wanted) {
        for (int[] w : wanted) {
            due("35 " + what + ", as of " + w[0], x.state(term, w[0]), w[1]);
            due("36 " + what + ", as of " + w[0], x.end(term, w[0]), w[2]);
        }
    }

    private static void statesOfADue() {
        BargainHall x = new BargainHall();
        x.due(0, 1, 1, 20);
        states("not paid", x, 0, new int[][] {{0, 2, 20}, {20, 2, 20}, {21, 4, 20}, {9999, 4, 20}});
        x.pay(0, 20);
        states("paid at the end", x, 0, new int[][] {{19, 2, 20}, {20, 3, 20}, {21, 3, 20}});
        x.due(0, 1, 1, 20);
        x.pay(1, 5);
        states("paid ahead", x, 1, new int[][] {{4, 2, 20}, {5, 3, 20}, {21, 3, 20}});
        x.due(0, 1, 1, 20);
        x.pay(2, 30);
        states("paid behind", x, 2, new int[][] {{20, 2, 20}, {21, 4, 20}, {29, 4, 20}, {30, 5, 20}, {99, 5, 20}});
        for (int term : new int[] {-1, 3, 16, Integer.MIN_VALUE, Integer.MAX_VALUE}) {
            due("35 term " + term, x.state(term, 0), BargainHall.BAD);
            due("36 term " + term, x.end(term, 0), BargainHall.BAD);
        }
        for (int hour : NO_HOURS) {
            due("35 hour " + hour, x.state(0, hour), BargainHall.BAD);
            due("36 hour " + hour, x.end(0, hour), BargainHall.BAD);
        }
    }

    private static void statesOfAnIf() {
        BargainHall x = new BargainHall();
        x.when(0, 1, 1, 7, 10);
        x.happen(6, 1, 1);
        states("not happened", x, 0, new int[][] {{9999, 1, BargainHall.NONE}});
        x.happen(7, 50, 70);
        states("late as it is known", x, 0, new int[][] {{69, 1, BargainHall.NONE}, {70, 4, 60}});
        x.when(0, 1, 1, 7, 30);
        states("told behind", x, 1, new int[][] {{69, 1, BargainHall.NONE}, {70, 2, 80}, {80, 2, 80}, {81, 4, 80}});
        x.pay(1, 75);
        states("paid", x, 1, new int[][] {{70, 2, 80}, {74, 2, 80}, {75, 3, 80}});
        x.happen(8, 9999, 9999);
        x.when(0, 1, 1, 8, 999);
        states("an end behind the last hour", x, 2, new int[][] {{9998, 1, BargainHall.NONE}, {9999, 2, 10998}});
        x.when(0, 1, 1, 6, 0);
        states("n is 0", x, 3, new int[][] {{0, 1, BargainHall.NONE}, {1, 2, 1}, {2, 4, 1}});
    }

    private static void statesOfABar() {
        BargainHall x = new BargainHall();
        x.bar(0, 2);
        x.mend(0, 1, 1, 0, 4);
        due("35 a bar", x.state(0, 9999), 1);
        states("of a bar that holds", x, 1, new int[][] {{9999, 1, BargainHall.NONE}});
        x.happen(2, 10, 12);
        due("35 not known", x.state(0, 11), 1);
        due("35 broken", x.state(0, 12), 4);
        due("36 a bar", x.end(0, 12), BargainHall.CAST);
        due("36 a bar, BAD first", x.end(0, -1), BargainHall.BAD);
        states("of a broken bar", x, 1, new int[][] {{11, 1, BargainHall.NONE}, {12, 2, 14}, {14, 2, 14}, {15, 4, 14}});
        due("37 of the bar nothing", x.owes(0, 12), 1);
    }

    private static void mendsOfMends() {
        BargainHall x = new BargainHall();
        x.due(0, 1, 1, 10);
        for (int i = 1; i < 16; i++) {
            due("31 mends", x.mend(0, 1, 1, i - 1, i % 3), i);
        }
        int end = 10;
        for (int i = 1; i < 16; i++) {
            states("ahead of the break", x, i, new int[][] {{end, 1, BargainHall.NONE}});
            end += 1 + i % 3;
            states("behind the break", x, i, new int[][] {{end, 2, end}, {end + 1, 4, end}});
        }
        x.pay(0, 15);
        states("of a mended one", x, 1, new int[][] {{14, 4, 12}, {15, 4, 12}, {9999, 4, 12}});

        BargainHall y = new BargainHall();
        y.due(0, 1, 1, 10);
        y.mend(1, 0, 1, 0, 5);
        y.pay(0, 9);
        states("of a paid one", y, 1, new int[][] {{20, 1, BargainHall.NONE}});
        y.due(0, 1, 1, 10);
        y.pay(2, 30);
        y.mend(1, 0, 1, 2, 5);
        states("of one paid late", y, 3, new int[][] {{10, 1, BargainHall.NONE}, {11, 2, 16}, {30, 4, 16}});
        y.pay(3, 16);
        states("a mend in time", y, 3, new int[][] {{15, 2, 16}, {16, 3, 16}, {99, 3, 16}});
        y.mend(0, 1, 1, 3, 0);
        states("of a mend in time", y, 4, new int[][] {{16, 1, BargainHall.NONE}, {99, 1, BargainHall.NONE}});
    }

    private static void paidWhileWaiting() {
        BargainHall x = new BargainHall();
        x.when(0, 1, 1, 3, 2);
        due("34 paid ahead of all", x.pay(0, 7), 1001);
        states("without an end it waits", x, 0, new int[][] {{6, 1, BargainHall.NONE}, {9999, 1, BargainHall.NONE}});
        x.happen(3, 4, 20);
        states("too late, as is known then", x, 0, new int[][] {{19, 1, BargainHall.NONE}, {20, 5, 6}});
        x.when(0, 1, 1, 4, 2);
        x.pay(1, 7);
        x.happen(4, 5, 20);
        states("in time, as is known then", x, 1, new int[][] {{19, 1, BargainHall.NONE}, {20, 3, 7}});
    }

    /** 0 is an hour like another one: what happened or was paid then has happened, and is paid. */
    private static void hourZero() {
        BargainHall x = new BargainHall();
        x.when(0, 1, 1, 0, 0);
        x.bar(0, 0);
        x.mend(0, 1, 1, 1, 0);
        x.due(0, 1, 1, 0);
        due("33 at hour 0, known then", x.happen(0, 0, 0), 1);
        due("33 it has happened", x.happen(0, 5, 5), BargainHall.NOT);
        states("an if of hour 0", x, 0, new int[][] {{0, 2, 0}, {1, 4, 0}});
        due("35 a bar broken at hour 0", x.state(1, 0), 4);
        states("a mend of that", x, 2, new int[][] {{0, 2, 0}, {1, 4, 0}});
        due("34 paid at hour 0", x.pay(3, 0), 1001);
        states("paid at hour 0", x, 3, new int[][] {{0, 3, 0}, {1, 3, 0}});
        due("34 it is paid", x.pay(3, 1), BargainHall.NOT);
        due("37 it is not owed", x.owes(0, 0), 2);
    }

    /** No hour is behind 9999: what is due then is never late, and nothing mends it. */
    private static void lastHour() {
        BargainHall x = new BargainHall();
        x.due(0, 1, 1, 9999);
        x.mend(1, 0, 1, 0, 0);
        x.due(0, 1, 1, 9998);
        x.mend(1, 0, 1, 2, 999);
        x.when(0, 1, 1, 0, 0);
        x.happen(0, 9999, 9999);
        states("due at the last hour", x, 0, new int[][] {{9998, 2, 9999}, {9999, 2, 9999}});
        states("a mend of that", x, 1, new int[][] {{9999, 1, BargainHall.NONE}});
        states("due one ahead", x, 2, new int[][] {{9998, 2, 9998}, {9999, 4, 9998}});
        states("a mend of that", x, 3, new int[][] {{9998, 1, BargainHall.NONE}, {9999, 2, 10998}});
        states("an if of the last hour", x, 4, new int[][] {{9998, 1, BargainHall.NONE}, {9999, 2, 9999}});
        x.pay(0, 9999);
        x.pay(2, 9999);
        states("paid at the last hour", x, 0, new int[][] {{9998, 2, 9999}, {9999, 3, 9999}});
        states("mended at the last hour", x, 2, new int[][] {{9998, 2, 9998}, {9999, 5, 9998}});
        states("a mend of what is mended", x, 3, new int[][] {{9999, 2, 10998}});
    }

    private static void owesMost() {
        BargainHall x = new BargainHall();
        for (int i = 0; i < 16; i++) {
            x.due(3, i % 3, 999, 5);
        }
        due("37 of 16 terms that are owed", x.owes(3, 5), 16 * 999);
        due("37 of 16 terms that are late", x.owes(3, 9999), 16 * 999);
        due("37 of another", x.owes(0, 5), 0);
    }

    private static void owes() {
        BargainHall x = new BargainHall();
        for (int house : NO_HOUSES) {
            due("37 house " + house, x.owes(house, 0), BargainHall.BAD);
        }
        for (int hour : NO_HOURS) {
            due("37 hour " + hour, x.owes(0, hour), BargainHall.BAD);
        }
        due("37 nothing", x.owes(0, 0), 0);
        x.due(0, 1, 100, 10);
        x.when(0, 2, 20, 1, 10);
        x.mend(0, 3, 3, 0, 5);
        x.bar(0, 1);
        x.due(1, 0, 500, 10);
        due("37 owed", x.owes(0, 10), 100);
        due("37 late, and a mend", x.owes(0, 11), 103);
        due("37 of another", x.owes(1, 11), 500);
        due("37 what is owed to it does not count", x.owes(2, 11), 0);
        x.happen(1, 5, 15);
        due("37 not known", x.owes(0, 14), 103);
        due("37 known", x.owes(0, 15), 123);
        x.pay(0, 12);
        due("37 not paid yet", x.owes(0, 11), 103);
        due("37 mended, the mend is owed still", x.owes(0, 12), 3);
        x.pay(2, 13);
        due("37 all but the if", x.owes(0, 15), 20);
        due("37 all but what is not known", x.owes(0, 14), 0);
    }
}
