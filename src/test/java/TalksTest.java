/** Promises 13 to 23. */
public final class TalksTest {
    private static final Check CHECK = new Check("TalksTest");
    private static final int[] NO_HOUSES = {-1, 4, Integer.MIN_VALUE, Integer.MAX_VALUE};

    public static void main(String[] args) {
        talk();
        ask();
        offer();
        yes();
        yesIsRefused();
        yesMovesAll();
        walk();
        over();
        word();
        machineOffers();
        machineAgrees();
        machineWalks();
        machineCountsItsWords();
        machineAtItsMandate();
        machineBeginsAnew();
        runs();
        learnt();
        learntOfB();
        learntOfYesAndWalk();
        learntAsTold();
        learntBarredToTheOther();
        learntBarredToB();
        learntWithoutItsBars();
        learntRefused();
        CHECK.covers(13, 23);
        CHECK.finish();
    }

    private static void due(String what, long got, long want) {
        CHECK.due(what, got, want);
    }

    /** 0 has a, b; 1 has c, d; 2 has e, f. */
    private static BargainHall owners() {
        BargainHall x = new BargainHall();
        x.own(2, 1);
        x.own(3, 1);
        x.own(4, 2);
        x.own(5, 2);
        return x;
    }

    private static void talks(BargainHall x, int standing, int words, int turn) {
        due("14 how it stands", x.talks(0), standing);
        due("14 words", x.talks(1), words);
        due("14 turn", x.talks(2), turn);
    }

    private static void talk() {
        BargainHall x = owners();
        talks(x, 0, 0, BargainHall.NONE);
        due("14 what -1", x.talks(-1), BargainHall.BAD);
        due("14 what 3", x.talks(3), BargainHall.BAD);
        due("13 words 0", x.talk(0, 1, 0), BargainHall.BAD);
        due("13 words 21", x.talk(0, 1, 21), BargainHall.BAD);
        due("13 one house", x.talk(2, 2, 5), BargainHall.BAD);
        for (int house : NO_HOUSES) {
            due("13 a " + house, x.talk(house, 1, 5), BargainHall.BAD);
            due("13 b " + house, x.talk(1, house, 5), BargainHall.BAD);
        }
        talks(x, 0, 0, BargainHall.NONE);
        due("13 talk(3, 1, 20)", x.talk(3, 1, 20), 1);
        talks(x, 1, 0, 3);
        due("13 one is open", x.talk(0, 1, 5), BargainHall.NOT);
        due("13 one is open, BAD first", x.talk(0, 1, 0), BargainHall.BAD);
        x.walk();
        due("13 again", x.talk(1, 0, 1), 1);
        talks(x, 1, 0, 1);
    }

    private static void ask() {
        BargainHall x = owners();
        due("15 no talk", x.ask(0), BargainHall.NOT);
        due("15 no talk, BAD first", x.ask(6), BargainHall.BAD);
        x.talk(0, 1, 9);
        due("15 its own", x.ask(0), BargainHall.NOT);
        due("15 a third one's", x.ask(4), BargainHall.NOT);
        due("15 thing -1", x.ask(-1), BargainHall.BAD);
        due("15 thing 6", x.ask(6), BargainHall.BAD);
        talks(x, 1, 0, 0);
        due("15 the other one's", x.ask(2), 1);
        talks(x, 1, 1, 1);
        due("15 its own, of b", x.ask(2), BargainHall.NOT);
        due("15 the other one's, of b", x.ask(1), 1);
        talks(x, 1, 2, 0);
    }

    private static void offer() {
        BargainHall x = owners();
        due("16 no talk", x.offer(0, 0), BargainHall.NOT);
        due("16 no talk, NOT first", x.offer(64, 0), BargainHall.NOT);
        x.talk(0, 1, 9);
        due("16 set -1", x.offer(-1, 0), BargainHall.BAD);
        due("16 set 64", x.offer(64, 0), BargainHall.BAD);
        due("16 things of others", x.offer(17, 0), BargainHall.BAD);
        due("16 price 1000", x.offer(0, 1000), BargainHall.BAD);
        due("16 price -1000", x.offer(0, -1000), BargainHall.BAD);
        talks(x, 1, 0, 0);
        due("16 an offer", x.offer(15, 999), 1);
        due("16 a counter", x.offer(0, -999), 2);
        due("16 a counter", x.offer(1, 0), 2);
        due("15 an ask", x.ask(0), 1);
        due("16 an offer behind an ask", x.offer(1, 0), 1);
        talks(x, 1, 5, 1);
        x.walk();
        due("16 left", x.offer(0, 0), BargainHall.NOT);
    }

    private static void yes() {
        BargainHall x = owners();
        Check.wish(x, 0, "a10;c25");
        Check.wish(x, 1, "a30;c20");
        due("17 no talk", x.yes(), -10002);
        x.talk(0, 1, 9);
        due("17 no word", x.yes(), -10002);
        x.ask(2);
        due("17 an ask ahead", x.yes(), -10002);
        x.offer(5, 3);
        due("17 of a: 15 less 3", x.yes(), 12);
        talks(x, 2, 3, BargainHall.NONE);
        due("17 things of 0", x.told(0, 0), 6);
        due("17 things of 1", x.told(1, 0), 9);
        due("17 coins of 0", x.told(0, 1), 997);
        due("17 coins of 1", x.told(1, 1), 1003);
        due("17 kind", x.word(2, 0), 3);
        due("17 whose", x.word(2, 1), 0);
        due("17 agreed", x.yes(), -10002);
        x.talk(0, 1, 2);
        x.offer(0, 50);
        due("17 of b, the last word", x.yes(), 50);
        talks(x, 2, 2, BargainHall.NONE);
        due("17 coins of 1 then", x.told(1, 1), 1053);
    }

    private static void yesIsRefused() {
        BargainHall x = owners();
        Check.wish(x, 0, "a10;c25;!bc");
        Check.wish(x, 1, "a30;c20");
        x.set(1, 0, 10);
        x.talk(0, 1, 20);
        x.offer(5, 0);
        due("17 barred to the other one", x.yes(), -10002);
        x.ask(1);
        x.offer(7, 0);
        due("17 just the mandate", x.gain(0, 1, 7, 0, 1), 10);
        x.ask(0);
        due("17 the offer is not the word ahead", x.yes(), -10002);
        x.offer(7, -1);
        due("17 below the mandate", x.yes(), -10002);
        x.offer(0, -1);
        due("17 a mandate of 0", x.yes(), 1);

        BargainHall y = owners();
        y.coins(0, 5);
        y.talk(0, 1, 20);
        y.offer(0, 6);
        due("17 too few coins", y.yes(), -10002);
        y.ask(0);
        y.offer(0, 5);
        due("17 all its coins", y.yes(), 5);
        due("17 none left", y.told(0, 1), 0);
    }

    private static void yesMovesAll() {
        BargainHall x = owners();
        x.talk(1, 0, 20);
        due("16 as a and b, said by a", x.offer(15, -7), 1);
        due("16 as a and b, said by b", x.offer(13, 8), 2);
        due("17 a mandate of 0 says no", x.yes(), -10002);
        x.offer(15, 7);
        due("17 b gains the price", x.yes(), 7);
        due("17 all things of both change hands", x.told(1, 0), 3);
        due("17 all things of both change hands", x.told(0, 0), 12);
        due("17 a pays", x.told(1, 1), 993);
        due("17 things of others stay", x.told(2, 0), 48);
    }

    private static void walk() {
        BargainHall x = owners();
        due("18 no talk", x.walk(), BargainHall.NOT);
        x.talk(0, 1, 3);
        due("18 the first word", x.walk(), 1);
        talks(x, 3, 1, BargainHall.NONE);
        due("18 left", x.walk(), BargainHall.NOT);
        x.talk(0, 1, 3);
        x.ask(2);
        x.offer(0, 0);
        due("18 the last word", x.walk(), 3);
        talks(x, 3, 3, BargainHall.NONE);
        due("18 kind", x.word(2, 0), 4);
        due("18 whose", x.word(2, 1), 0);
    }

    private static void over() {
        BargainHall x = owners();
        x.talk(0, 1, 2);
        x.ask(2);
        talks(x, 1, 1, 1);
        x.offer(0, 0);
        talks(x, 4, 2, BargainHall.NONE);
        due("15 over", x.ask(2), BargainHall.NOT);
        due("16 over", x.offer(0, 0), BargainHall.NOT);
        due("17 over", x.yes(), -10002);
        due("18 over", x.walk(), BargainHall.NOT);
        due("19 over", x.says(), BargainHall.NOT);
        due("20 over", x.runs(), BargainHall.NOT);
        due("2 own may be again", x.own(0, 0), 0);
    }

    private static void word() {
        BargainHall x = owners();
        due("21 no talk", x.word(0, 0), BargainHall.BAD);
        due("22 no talk", x.offered(0, 0), -10001);
        x.talk(1, 2, 9);
        x.ask(4);
        x.offer(20, -3);
        x.offer(4, 5);
        int[][] words = {{0, 1}, {1, 2}, {2, 1}};
        for (int i = 0; i < 3; i++) {
            due("21 kind", x.word(i, 0), words[i][0]);
            due("21 whose", x.word(i, 1), words[i][1]);
        }
        due("22 an ask", x.offered(0, 0), -10012);
        due("22 an ask, BAD first", x.offered(0, 2), -10001);
        due("22 set", x.offered(1, 0), 20);
        due("22 price", x.offered(1, 1), -3);
        due("22 a counter's set", x.offered(2, 0), 4);
        due("22 a counter's price", x.offered(2, 1), 5);
        for (int i : new int[] {-1, 3, 20, Integer.MIN_VALUE, Integer.MAX_VALUE}) {
            due("21 word " + i, x.word(i, 0), BargainHall.BAD);
            due("22 word " + i, x.offered(i, 0), -10001);
        }
        for (int what : new int[] {-1, 2}) {
            due("21 what " + what, x.word(0, what), BargainHall.BAD);
            due("22 what " + what, x.offered(1, what), -10001);
        }
        x.walk();
        due("22 a walk", x.offered(3, 1), -10012);
        due("21 words stay behind the end", x.word(0, 1), 1);
        x.talk(0, 1, 4);
        due("21 none of the new talk", x.word(0, 0), BargainHall.BAD);
    }

    private static void offered(BargainHall x, int i, int kind, int set, int price) {
        due("19 kind of " + i, x.word(i, 0), kind);
        due("19 set of " + i, x.offered(i, 0), set);
        due("19 price of " + i, x.offered(i, 1), price);
    }

    private static void machineOffers() {
        BargainHall x = owners();
        // worth to 0: of a 10, b 20, c 40, d 40, of all four 0 and barred with b, c, d
        Check.wish(x, 0, "a10;b20;c40;d40;!bcd");
        x.set(0, 1, 50);
        x.set(0, 2, 30);
        x.set(0, 0, 5);
        x.talk(0, 1, 20);
        due("19 no offer ahead", x.says(), 1);
        x.ask(0);
        due("19 behind an ask", x.says(), 1);
        x.ask(0);
        x.says();
        x.offer(0, -4);
        due("19 a counter", x.says(), 2);
        // acd 90, cd 80, abc 70 ahead of abd 70; the level: 50, 20, 5, 5
        offered(x, 0, 1, 14, 10);
        offered(x, 2, 1, 15, 30);
        offered(x, 4, 1, 4, 35);
        offered(x, 6, 2, 8, 35);

        BargainHall y = owners();
        Check.wish(y, 1, "a10;b20;c40;d40;!bcd");
        y.set(1, 1, 50);
        y.set(1, 2, 30);
        y.talk(0, 1, 20);
        y.ask(2);
        due("19 of b", y.says(), 1);
        y.offer(0, 0);
        due("19 of b, a counter", y.says(), 2);
        offered(y, 1, 1, 1, 40);
        offered(y, 3, 2, 0, 20);
    }

    private static void machineAgrees() {
        BargainHall x = owners();
        Check.wish(x, 1, "a30;!acd");
        x.set(1, 1, 40);
        x.set(1, 2, 5);
        x.set(1, 0, 20);
        x.talk(0, 1, 20);
        x.offer(0, 39);
        due("19 one below the level", x.says(), 2);
        x.offer(0, 35);
        due("19 the level at its second word", x.says(), 3);
        talks(x, 2, 4, BargainHall.NONE);
        due("19 coins change hands", x.told(1, 1), 1035);
        x.talk(0, 1, 20);
        x.offer(1, 999);
        due("19 not good: barred to it", x.says(), 2);
        x.walk();
        x.talk(0, 1, 20);
        x.offer(5, 10);
        due("19 good", x.says(), 3);
        due("19 things change hands", x.told(1, 0), 9);
    }

    private static void machineWalks() {
        BargainHall x = owners();
        x.set(0, 1, 999);
        x.set(0, 2, 0);
        x.talk(0, 1, 20);
        due("19 a price of -999", x.says(), 1);
        offered(x, 0, 1, 0, -999);
        x.walk();
        // it must give a away, which costs it 1 more
        Check.wish(x, 0, "a1;!a");
        x.talk(0, 1, 20);
        due("19 a price of -1000", x.says(), 4);
        talks(x, 3, 1, BargainHall.NONE);
        x.talk(1, 0, 20);
        x.ask(0);
        due("19 a price of 1000", x.says(), 4);
        x.set(0, 1, 998);
        x.talk(1, 0, 20);
        x.ask(0);
        due("19 a price of 999", x.says(), 1);
        offered(x, 1, 1, 1, 999);
        x.walk();
        Check.wish(x, 0, "!a;!b;!c;!d");
        x.set(0, 1, 10);
        x.talk(0, 1, 20);
        due("19 all is barred but nothing", x.says(), 1);
        offered(x, 0, 1, 3, -10);
        x.ask(0);
        due("19 the same again, of one", x.says(), 1);
        offered(x, 2, 1, 3, -10);
    }

    private static void machineCountsItsWords() {
        BargainHall x = owners();
        Check.wish(x, 0, "a8;b4;c2;d1");
        x.talk(0, 1, 20);
        x.ask(2);
        x.ask(0);
        x.offer(0, -1);
        x.ask(0);
        due("19 its third word", x.says(), 1);
        // by worth: 15, 14, 13 of abcd: the third has all but c, that is d is taken alone
        offered(x, 4, 1, 8, 13 - 12 - 80);
    }

    private static void machineAtItsMandate() {
        BargainHall x = owners();
        x.set(0, 0, 20);
        x.set(0, 1, 3);
        x.talk(0, 1, 20);
        x.says();
        offered(x, 0, 1, 0, -20);
        x.offer(0, -19);
        due("19 above the start, below the mandate", x.says(), 2);
        x.offer(0, -20);
        due("19 just the mandate", x.says(), 3);

        BargainHall y = owners();
        y.set(0, 1, 99);
        y.set(0, 2, 99);
        y.talk(0, 1, 20);
        for (int k = 0; k < 3; k++) {
            y.says();
            y.ask(0);
        }
        offered(y, 0, 1, 0, -99);
        offered(y, 2, 1, 1, 0);
        offered(y, 4, 1, 2, 0);
    }

    /** Behind the last of its EXCHANGES a MACHINE goes on with the first. */
    private static void machineBeginsAnew() {
        BargainHall x = new BargainHall();
        for (int thing = 1; thing < 6; thing++) {
            x.own(thing, 2);
        }
        Check.wish(x, 0, "a7");
        x.set(0, 2, 0);
        x.talk(0, 1, 20);
        due("20 twenty words", x.runs(), 4);
        for (int k = 0; k < 10; k++) {
            due("19 of two, set " + k, x.offered(2 * k, 0), k % 2);
            due("19 of two, price " + k, x.offered(2 * k, 1), k % 2 == 0 ? -100 : -107);
        }
    }

    private static void runs() {
        BargainHall x = owners();
        due("20 no talk", x.runs(), BargainHall.NOT);
        Check.wish(x, 0, "a5;c60");
        Check.wish(x, 1, "a60;c5");
        x.talk(0, 1, 20);
        due("20 agreed", x.runs(), 2);
        int words = x.talks(1);
        due("20 the last word is a yes", x.word(words - 1, 0), 3);
        due("20 not open", x.runs(), BargainHall.NOT);

        BargainHall y = owners();
        y.talk(0, 1, 7);
        due("20 over", y.runs(), 4);
        due("20 seven words", y.talks(1), 7);
        y.talk(0, 1, 20);
        due("20 over, of 20 words", y.runs(), 4);
        due("20 twenty words", y.talks(1), 20);
        y.talk(0, 1, 1);
        due("20 over, of one word", y.runs(), 4);
        y.set(0, 1, 999);
        Check.wish(y, 0, "a1;!a");
        y.talk(0, 1, 20);
        due("20 left", y.runs(), 3);
        due("20 one word", y.talks(1), 1);
    }

    private static void learnt() {
        BargainHall x = owners();
        Check.wish(x, 0, "a10;b10;c20;d20");
        x.talk(0, 1, 20);
        due("23 no words", x.learnt(0, 0), 81);
        due("23 no words, of b", x.learnt(1, 0), 81);
        due("23 more than it said", x.learnt(0, 1), BargainHall.BAD);
        x.says();
        // set 12 with a price of -60: c and d are worth 20 each; a, b may be anything
        due("23 one word", x.learnt(0, 1), 9);
        due("23 all of one", x.learnt(0, 0), 9);
        due("23 more than it said", x.learnt(0, 2), BargainHall.BAD);
        x.ask(0);
        due("23 an ask is no machine's", x.learnt(1, 1), 0);
        due("23 of the other one as before", x.learnt(0, 0), 9);
        x.offer(0, 0);
        due("23 a word that no wish says", x.learnt(0, 2), 0);
        due("23 the first one alone", x.learnt(0, 1), 9);
    }

    /** 0 has a, b; 1 has c: what 1 says tells of what it would have. */
    private static void learntOfB() {
        BargainHall x = new BargainHall();
        for (int thing = 3; thing < 6; thing++) {
            x.own(thing, 2);
        }
        x.own(1, 1);
        x.own(2, 1);
        Check.wish(x, 1, "a20;b10;c10");
        x.talk(0, 1, 20);
        x.ask(1);
        due("23 b has said nothing", x.learnt(1, 0), 27);
        due("23 b has said nothing, a word", x.learnt(1, 1), BargainHall.BAD);
        x.says();
        x.ask(2);
        // 1 asks 80 for having a too: a is worth 20; b and c may be anything
        offered(x, 1, 1, 1, 80);
        due("23 b has said one word", x.learnt(1, 1), 9);
        due("23 b has said one word: all", x.learnt(1, 0), 9);
        due("23 b has said one word, not two", x.learnt(1, 2), BargainHall.BAD);
        due("23 a has said two words, not three", x.learnt(0, 3), BargainHall.BAD);
        due("23 a has asked", x.learnt(0, 2), 0);
        x.says();
        // then it gives b for a, for 80: with 20 for a it is 10 for b, and c is worth no less
        offered(x, 3, 1, 3, 80);
        due("23 b has said two words", x.learnt(1, 2), 2);
        due("23 b has said two words: all", x.learnt(1, 0), 2);
        due("23 the first of them alone", x.learnt(1, 1), 9);
        Check.wish(x, 1, "a0");
        due("23 the machine's wish as it is does not matter", x.learnt(1, 2), 2);
    }

    private static void learntOfYesAndWalk() {
        BargainHall x = new BargainHall();
        x.own(0, 1);
        for (int thing = 1; thing < 6; thing++) {
            x.own(thing, 2);
        }
        Check.wish(x, 0, "a20");
        x.set(0, 1, 10);
        x.talk(1, 0, 20);
        x.offer(1, -10);
        due("23 a yes", x.says(), 3);
        // with a worth of 20 the gain is 10, the level; with less it is not
        due("23 who says yes", x.learnt(0, 1), 1);
        x.set(0, 1, 0);
        due("23 start as it is", x.learnt(0, 1), 2);
        x.set(0, 0, 11);
        due("23 mandate as it is", x.learnt(0, 1), 0);
        due("23 things as the talk began", x.told(0, 0), 1);

        BargainHall y = new BargainHall();
        for (int thing = 1; thing < 6; thing++) {
            y.own(thing, 2);
        }
        y.set(0, 1, 990);
        y.set(0, 2, 0);
        y.talk(0, 1, 20);
        y.says();
        y.ask(0);
        y.walk();
        // the second choice gives a away: -20 less 990 is no price, nor is -10 less 990
        due("23 who walks", y.learnt(0, 2), 2);
    }

    /** 1 offers a for 11 COINS to 0, which has 10, would have it, and says what it may. */
    private static BargainHall tooDear(int coinsOf0) {
        BargainHall x = new BargainHall();
        x.own(0, 1);
        for (int thing = 1; thing < 6; thing++) {
            x.own(thing, 2);
        }
        Check.wish(x, 0, "a20");
        x.coins(0, coinsOf0);
        x.set(0, 1, 5);
        x.talk(1, 0, 20);
        x.offer(1, -11);
        x.says();
        return x;
    }

    private static void learntAsTold() {
        BargainHall x = tooDear(10);
        due("19 not good", x.word(1, 0), 2);
        due("23 not good, while it is open", x.learnt(0, 1), 1);
        x.walk();
        x.coins(0, 1000);
        due("23 coins of b as the talk began", x.learnt(0, 1), 1);
        x.own(0, 3);
        due("23 things as the talk began", x.learnt(0, 1), 1);

        BargainHall y = tooDear(11);
        due("19 good", y.word(1, 0), 3);
        due("23 all its coins", y.learnt(0, 1), 1);
        due("23 its coins are gone", y.told(0, 1), 0);
        y.coins(1, 9999);
        due("23 coins of a as the talk began", y.learnt(0, 1), 1);
        Check.wish(y, 0, "b7");
        due("23 its own wish does not matter", y.learnt(0, 1), 1);
        Check.wish(y, 1, "!b");
        due("23 nor what is not barred to the other one", y.learnt(0, 1), 1);

        BargainHall z = tooDear(1000);
        z.own(0, 1);
        z.coins(1, 9989);
        z.talk(1, 0, 20);
        z.offer(1, -11);
        due("19 a would have 10000", z.says(), 2);
        z.walk();
        z.coins(1, 0);
        due("23 a would have had 10000", z.learnt(0, 1), 1);
    }

    private static void learntBarredToTheOther() {
        BargainHall x = new BargainHall();
        for (int thing = 2; thing < 6; thing++) {
            x.own(thing, 2);
        }
        x.own(1, 1);
        Check.wish(x, 0, "b20");
        Check.wish(x, 1, "!a");
        x.set(0, 1, 5);
        x.talk(1, 0, 20);
        x.offer(3, 0);
        due("19 barred to the other one", x.says(), 2);
        // b is worth 20; a may be anything, as no yes may be said
        due("23 barred to the other one", x.learnt(0, 1), 3);
        x.walk();
        Check.wish(x, 1, "a1");
        // with a worth 0 or 10 it would say yes now
        due("23 the other one's wish as it is", x.learnt(0, 1), 1);
    }

    /** The same, where the one that is learnt of began the TALK. */
    private static void learntBarredToB() {
        BargainHall x = new BargainHall();
        for (int thing = 2; thing < 6; thing++) {
            x.own(thing, 2);
        }
        x.own(1, 1);
        Check.wish(x, 0, "b20");
        Check.wish(x, 1, "!a");
        x.set(0, 1, 5);
        x.set(0, 2, 0);
        x.talk(0, 1, 20);
        x.says();
        x.offer(3, 0);
        due("19 barred to the other one", x.says(), 2);
        // it would pay 15 for b, which is worth 20, and as much if it gave a for it, which is worth 0
        offered(x, 0, 1, 2, 15);
        offered(x, 2, 2, 3, 15);
        due("23 barred to b", x.learnt(0, 2), 1);
        x.walk();
        Check.wish(x, 1, "a1");
        due("23 not barred to b any more: it would say yes", x.learnt(0, 2), 0);
    }

    /** The WISHES that are tried have no bars: where it has one, its MACHINE says what none of them would. */
    private static void learntWithoutItsBars() {
        BargainHall x = new BargainHall();
        x.own(0, 1);
        for (int thing = 1; thing < 6; thing++) {
            x.own(thing, 2);
        }
        Check.wish(x, 0, "!a");
        x.set(0, 1, 5);
        x.talk(1, 0, 20);
        x.offer(1, 5);
        due("19 barred to it", x.says(), 2);
        offered(x, 1, 2, 0, 5);
        due("23 none would say no", x.learnt(0, 1), 0);
        x.walk();
        x.talk(1, 0, 20);
        x.offer(1, 4);
        due("19 barred to it, and too little", x.says(), 2);
        // with a worth 0 it would not say yes to 4, and ask for 5 as it did; with more it would say yes
        due("23 one would say so", x.learnt(0, 1), 1);
    }

    private static void learntRefused() {
        BargainHall x = new BargainHall();
        due("23 no talk", x.learnt(0, 0), BargainHall.NOT);
        due("23 no talk, n 5", x.learnt(0, 5), BargainHall.NOT);
        due("23 no talk, of 1", x.learnt(1, 0), BargainHall.NOT);
        due("23 no talk, of 2", x.learnt(2, 0), BargainHall.NOT);
        due("23 no talk, of 3", x.learnt(3, 1), BargainHall.NOT);
        due("23 no talk, n -1", x.learnt(0, -1), BargainHall.BAD);
        for (int house : NO_HOUSES) {
            due("23 house " + house, x.learnt(house, 0), BargainHall.BAD);
        }
        x.own(5, 2);
        x.talk(0, 1, 20);
        due("23 five things", x.learnt(0, 0), BargainHall.NOT);
        due("23 five things, BAD first", x.learnt(0, 1), BargainHall.BAD);
        due("23 one that does not talk", x.learnt(2, 0), BargainHall.BAD);
        due("23 n -1", x.learnt(0, -1), BargainHall.BAD);
        x.walk();
        x.own(4, 2);
        due("23 five things as it began", x.learnt(0, 0), BargainHall.NOT);
        x.talk(1, 0, 20);
        due("23 four things", x.learnt(0, 0), 81);
        x.walk();
        x.talk(1, 3, 20);
        due("23 no things", x.learnt(3, 0), 1);
        due("23 no things, of a", x.learnt(1, 0), 1);
        x.says();
        due("23 no things, a word", x.learnt(1, 1), 1);
    }
}
