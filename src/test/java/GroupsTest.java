/** Promises 24 to 28. */
public final class GroupsTest {
    private static final Check CHECK = new Check("GroupsTest");

    public static void main(String[] args) {
        value();
        valueOfBarredSets();
        valuesFollowWishesAndThings();
        rest();
        unrest();
        share();
        shareOfOnesOwn();
        shareWithoutValues();
        envy();
        CHECK.covers(24, 28);
        CHECK.finish();
    }

    private static void due(String what, long got, long want) {
        CHECK.due(what, got, want);
    }

    private static void value() {
        BargainHall x = new BargainHall();
        for (int group : new int[] {0, 16, -1, Integer.MIN_VALUE, Integer.MAX_VALUE}) {
            due("24 group " + group, x.value(group), -10001);
        }
        x.own(1, 1);
        Check.wish(x, 0, "a10;b30");
        Check.wish(x, 1, "a40;b5;ab9");
        due("24 of 0", x.value(1), 10);
        due("24 of 1", x.value(2), 5);
        due("24 of both: a to 1, b to 0", x.value(3), 70);
        due("24 of one without things", x.value(4), 0);
        due("24 of 0 and 2", x.value(5), 10);
        Check.wish(x, 1, "a40;b5;ab50");
        due("24 of both: all to 1", x.value(3), 95);
        Check.wish(x, 0, "c-7;d-7");
        Check.wish(x, 1, "c-8;d8");
        due("24 all are parted, whatever that costs", x.value(3), 1);
        due("24 a third one takes them for nothing", x.value(7), 8);
        due("24 of all", x.value(15), 8);
        Check.wish(x, 0, "a-99;a-99;a-99;a-99;a-99;a-99;a-99;a-99;a-99;a-99;a-99;a-99");
        due("24 far below 0", x.value(1), -1188);
    }

    private static void valueOfBarredSets() {
        BargainHall x = new BargainHall();
        Check.wish(x, 0, "a9;b9;!ab");
        due("24 barred", x.value(1), -10004);
        due("24 with another one that takes a part", x.value(3), 9);
        Check.wish(x, 1, "!a;!b");
        due("24 nobody may take it", x.value(3), -10004);
        due("24 but a third one may", x.value(7), 9);
        x.own(1, 2);
        due("24 not barred now", x.value(1), 9);
        Check.wish(x, 2, "c-4");
        due("24 a value of -4 is one", x.value(4), 0);
        x.own(2, 2);
        due("24 a value of -4 is one", x.value(4), -4);
    }

    private static void valuesFollowWishesAndThings() {
        BargainHall x = new BargainHall();
        Check.wish(x, 2, "f20");
        due("24 of 0", x.value(1), 0);
        due("24 of 0, 2", x.value(5), 20);
        x.own(5, 3);
        due("24 f is away", x.value(5), 0);
        due("24 f is there", x.value(12), 20);
        Check.wish(x, 2, "f30");
        due("24 a new wish", x.value(12), 30);
        due("24 a new wish, of all", x.value(15), 30);
        x.sheet(0, 2, 6);
        x.item(0, 2, 5, 40);
        x.wishes(3, 0, 2, 0);
        due("24 a new wish from a sheet", x.value(8), 40);
        due("24 a new wish from a sheet, of two", x.value(12), 40);
        due("5 a fault", Check.wish(x, 3, "f"), -21);
        due("24 the wish stays", x.value(12), 40);
        x.talk(3, 2, 5);
        x.offer(32, -1);
        due("24 nothing is agreed yet", x.value(4), 0);
        due("17 yes", x.yes(), 29);
        due("24 f changed hands", x.value(4), 30);
    }

    private static void rest() {
        BargainHall x = new BargainHall();
        due("25 rest", x.unrest(), 0);
        due("26 rest", x.leaves(), BargainHall.NONE);
        Check.wish(x, 0, "a5");
        due("25 rest still", x.unrest(), 0);
        due("26 rest still", x.leaves(), BargainHall.NONE);
        Check.wish(x, 1, "a5");
        due("25 no more than as they are", x.unrest(), 0);
        due("26 no more than as they are", x.leaves(), BargainHall.NONE);
    }

    private static void unrest() {
        BargainHall x = new BargainHall();
        x.own(0, 1);
        x.own(1, 3);
        Check.wish(x, 0, "c1");
        Check.wish(x, 1, "a4;b9");
        Check.wish(x, 2, "a10");
        due("25 a to 2, b to 1", x.unrest(), 15);
        due("26 1 and 2 would do better", x.leaves(), 6);
        Check.wish(x, 2, "a4");
        due("25 b to 1", x.unrest(), 9);
        due("26 1 and 3 would do better", x.leaves(), 10);
        Check.wish(x, 0, "a4;b4;c-1;d1");
        due("26 c to 1", x.leaves(), 3);
        Check.wish(x, 3, "b-3");
        due("25 as they are: -3", x.unrest(), 13);

        BargainHall y = new BargainHall();
        Check.wish(y, 0, "a50;!a");
        Check.wish(y, 1, "a60");
        due("24 of 0 alone there is none", y.value(1), -10004);
        due("25 worth as it is, barred or not", y.unrest(), 10);
        due("26 the group without a value does not", y.leaves(), 3);
        Check.wish(y, 1, "a40");
        due("25 none above", y.unrest(), 0);
        due("24 of both, below as they are", y.value(3), 40);
        due("26 a group that would do worse does not leave", y.leaves(), BargainHall.NONE);
        Check.wish(y, 2, "a50");
        due("26 nor one that would do as well", y.leaves(), BargainHall.NONE);
        Check.wish(y, 2, "a51");
        due("26 one that would do better by 1", y.leaves(), 5);
        due("25 by 1", y.unrest(), 1);
    }

    private static void share() {
        BargainHall x = new BargainHall();
        for (int house : new int[] {-1, 4, Integer.MIN_VALUE, Integer.MAX_VALUE}) {
            due("27 house " + house, x.share(house), -2147483649L);
        }
        // 0 brings a, worth 12 to 1 alone: the two have it by halves
        Check.wish(x, 1, "a12");
        due("27 of 0", x.share(0), 144);
        due("27 of 1", x.share(1), 144);
        due("27 of 2", x.share(2), 0);
        due("27 of 3", x.share(3), 0);
        Check.wish(x, 2, "a12");
        due("27 of 0, with two that want it", x.share(0), 192);
        due("27 of 1, with another", x.share(1), 48);
        due("27 of 2, with another", x.share(2), 48);
        Check.wish(x, 3, "a24");
        long sum = x.share(0) + x.share(1) + x.share(2) + x.share(3);
        due("27 all shares are the value of all", sum, 24 * 24);
        due("27 of 0, with three", x.share(0), 6 * 0 + 2 * (12 + 12 + 24) + 2 * (12 + 24 + 24) + 6 * 24);
    }

    private static void shareOfOnesOwn() {
        BargainHall x = new BargainHall();
        Check.wish(x, 0, "a10");
        due("27 what it has alone", x.share(0), 240);
        due("27 of one that brings nothing", x.share(3), 0);
        Check.wish(x, 3, "a30");
        due("27 of 0: 10 as the first, 20 more with 3", x.share(0), 12 * 10 + 12 * 30);
        due("27 of 3", x.share(3), 12 * 20);
    }

    private static void shareWithoutValues() {
        BargainHall x = new BargainHall();
        Check.wish(x, 0, "a6;!a");
        Check.wish(x, 1, "b4;a-2");
        // 0 alone has none (0); with 1 it is 2, with 2 or 3 it is 0
        due("24 0, 1", x.value(3), 4 - 2);
        due("24 0, 1, 2", x.value(7), 4);
        due("27 of 1", x.share(1), 2 * 2 + 2 * (4 + 4) + 6 * 4);
        due("27 of 2", x.share(2), 2 * 0 + 2 * 2);
    }

    private static void envy() {
        BargainHall x = new BargainHall();
        due("28 none", x.envy(), BargainHall.NONE);
        Check.wish(x, 3, "a1");
        due("28 3 of 0", x.envy(), 30);
        Check.wish(x, 3, "a1;!ab");
        due("28 barred to it", x.envy(), BargainHall.NONE);
        x.own(1, 2);
        due("28 not barred now", x.envy(), 30);
        Check.wish(x, 2, "b-1");
        due("28 2 of 0", x.envy(), 20);
        x.own(0, 1);
        due("28 2 of 0 still", x.envy(), 20);
        Check.wish(x, 2, "b0;c-1");
        due("28 3 of 1", x.envy(), 31);
        Check.wish(x, 0, "c-9;b2;a2");
        due("28 0 of 1 ahead of 2", x.envy(), 1);
        Check.wish(x, 3, "a1;!c;!b;!a");
        Check.wish(x, 0, "c1");
        due("28 as much is no envy", x.envy(), BargainHall.NONE);
    }
}
