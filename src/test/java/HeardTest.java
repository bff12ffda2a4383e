/** Promises 14 to 21: what is heard and foretold, by cases worked out by hand. */
public final class HeardTest {
    private static final Due due = new Due("HeardTest");

    public static void main(String[] args) {
        slipsAreCounted();
        cheapestCuts();
        cheapestTies();
        cheapestRefuses();
        tunedForetells();
        playsByOdds();
        buzzing();
        birdsAreLeft();
        birdsRefuse();
        wiresAreHung();
        treesAreMissing();
        missingRefuses();
        due.end();
    }

    private static void slipsAreCounted() {
        WindHarp x = Due.harp("tree 10 1 0 0;tree 10 2 0 0;tree 10 3 0 0;wind 0 20 1;wind 4 20 1;tune 100 205 300;");
        due.is("slips(0, 0)", x.slips(0, 0), 1);
        due.is("slips(0, 4)", x.slips(0, 4), 1);
        due.is("slips(0, 5)", x.slips(0, 5), 0);
        due.is("slips(0, 99)", x.slips(0, 99), 0);
        due.is("slips of no sound", x.slips(1, 0), 3);
        Due.orders(x, "fell 1;");
        due.is("one put in", x.slips(0, 0), 1);
        Due.wood(x, "tree 10 1 0 0;tree 10 2 0 0;tree 10 3 0 0;wind 0 20 1;");
        due.is("all left out", x.slips(0, 0), 3);
        Due.wood(x, "tree 10 3 0 0;tree 10 1 0 0;tree 10 2 0 0;wind 0 20 1;tune 100 200 300;");
        due.is("left out and put in", x.slips(0, 0), 2);
        Due.wood(x, "tree 10 1 0 0;wind 0 20 1;tune 0 0 100 0;");
        due.is("three put in", x.slips(0, 0), 3);
        Due.wood(x, "tree 10 1 0 0;".repeat(12) + "wind 0 20 1;tune 100 100 100 100 100 100 100 100 100 101;");
        due.is("twelve and ten", x.slips(0, 0), 3);
        due.is("twelve and ten, 1 apart", x.slips(0, 1), 2);
        Due.wood(x, "tree 10 1 0 0;wind 0 20 1;tune 0 1 2 3 4 5 6 7 8 9;");
        due.is("one and ten", x.slips(0, 0), 10);
        due.is("one and ten, 91 apart", x.slips(0, 91), 9);
        Due.wood(x, "tree 10 1 0 0;wind 0 20 1;");
        due.is("slips(-1, 0)", x.slips(-1, 0), Due.BAD);
        due.is("slips(1, 0)", x.slips(1, 0), Due.BAD);
        due.is("slips(0, -1)", x.slips(0, -1), Due.BAD);
        due.is("slips(0, 100)", x.slips(0, 100), Due.BAD);
        due.is("slips without a wood", new WindHarp().slips(0, 0), Due.BAD);
    }

    private static void isCheapest(String what, WindHarp x, int[] a, int sum, int slips, int steps) {
        due.is(what + " sum", x.cheapest(a[0], a[1], a[2], a[3], a[4], 0), sum);
        due.is(what + " slips", x.cheapest(a[0], a[1], a[2], a[3], a[4], 1), slips);
        due.is(what + " steps", x.cheapest(a[0], a[1], a[2], a[3], a[4], 2), steps);
    }

    private static void cheapestCuts() {
        WindHarp x = Due.harp("tree 14 1 0 0; tree 20 2 1 0; wind 0 20 1; wind 2 20 1; tune 100 125;");
        isCheapest("4 by 2 and 4 by 2", x, new int[] {0, 1, 2, 0, 0}, 4, 1, 2 * 4 + 2);
        isCheapest("4 by 4 and 4 by 4", x, new int[] {0, 1, 4, 0, 0}, 2, 1, 4 + 1);
        isCheapest("by 3 it is never so", x, new int[] {0, 1, 3, 0, 0}, Due.NONE, Due.NONE, Due.NONE);
        isCheapest("by 3 with 25 apart", x, new int[] {0, 1, 3, 0, 25}, 1, 1, 4);
        isCheapest("one slip", x, new int[] {0, 1, 4, 1, 0}, 1, 1, 1);
        due.is("nothing changes", x.tree(0, 0), 14);
        due.is("nothing is done", x.count(6), 0);
        Due.orders(x, "cut 0 2;");
        isCheapest("less than 10 is too short", x, new int[] {0, 1, 4, 0, 0}, Due.NONE, Due.NONE, Due.NONE);
        isCheapest("10 is not too short", x, new int[] {0, 1, 2, 0, 0}, 3, 1, 4 + 2);
        Due.wood(x, "tree 50 1 0 0; tree 50 1 0 0; tree 50 1 0 0; tree 50 1 0 0; tree 50 1 0 0; tree 50 1 0 0;"
            + "wind 0 20 1; tune 20 20 20 20 20 25;");
        isCheapest("the sixth is not cut", x, new int[] {0, 0, 10, 0, 0}, Due.NONE, Due.NONE, Due.NONE);
        isCheapest("one slip for the sixth", x, new int[] {0, 0, 10, 1, 0}, 0, 1, 0);
        Due.wood(x, "tree 50 1 4 0; tree 50 1 0 0; tree 50 1 0 0; tree 50 1 0 0; tree 50 1 0 0; tree 50 1 0 0;"
            + "wind 0 20 1; tune 20 20 20 20 25;");
        isCheapest("one that does not sound is none of them", x, new int[] {0, 0, 10, 0, 0}, 1, 0, 1);
        Due.wood(x, "tree 40 1 0 0; tree 40 1 0 0; tree 40 1 0 0; tree 40 1 0 0; tree 40 1 0 0;"
            + "wind 0 20 1; tune 100 100 100 100 100;");
        isCheapest("three steps each", x, new int[] {0, 0, 10, 0, 0}, 15, 0, 1023);
        isCheapest("but for the last by steps", x, new int[] {0, 0, 10, 1, 0}, 12, 1, 255);
        isCheapest("two steps of 15", x, new int[] {0, 0, 15, 0, 0}, 10, 0, 682);
        isCheapest("small steps", x, new int[] {0, 0, 1, 0, 74}, 10, 0, 682);
        Due.wood(x, "tree 40 8 0 0; tree 50 8 1 0; wind 0 20 1; wind 2 20 1; tune 190 155;");
        Due.orders(x, "wet;");
        isCheapest("it is wet", x, new int[] {0, 1, 1, 0, 0}, 0, 1, 0);
        Due.orders(x, "fell 1;");
        isCheapest("it is felled", x, new int[] {0, 1, 1, 1, 0}, 0, 2, 0);
        Due.wood(x, "tree 50 1 0 0; wind 4 20 1; tune 20;");
        isCheapest("no tree sounds", x, new int[] {0, 0, 10, 0, 0}, Due.NONE, Due.NONE, Due.NONE);
        isCheapest("no tree sounds, one slip", x, new int[] {0, 0, 10, 1, 0}, 0, 1, 0);
    }

    /** Two rows of one sum: the one that spoils the other wind more, else the first by steps. */
    private static void cheapestTies() {
        WindHarp x = Due.harp("tree 20 2 0 0; tree 20 2 1 0; wind 0 20 1; wind 7 20 1; wind 2 20 1; tune 100 111;");
        isCheapest("last by steps is first", x, new int[] {0, 2, 2, 0, 0}, 1, 1, 1);
        Due.wood(x, "tree 20 2 0 0; tree 20 2 1 0; wind 0 20 1; wind 7 20 1; wind 2 20 1; tune 111;");
        isCheapest("spoils wind 1 most", x, new int[] {0, 1, 2, 1, 0}, 1, 1, 1);
        isCheapest("spoils wind 2 most", x, new int[] {0, 2, 2, 1, 0}, 1, 1, 4);
        isCheapest("spoils both alike", x, new int[] {0, 0, 2, 1, 0}, 1, 1, 1);
    }

    private static void cheapestRefuses() {
        WindHarp x = Due.harp("tree 14 1 0 0; wind 0 20 1; wind 2 20 1;");
        due.is("a -1", x.cheapest(-1, 0, 1, 0, 0, 0), Due.BAD);
        due.is("a 2", x.cheapest(2, 0, 1, 0, 0, 0), Due.BAD);
        due.is("b -1", x.cheapest(0, -1, 1, 0, 0, 0), Due.BAD);
        due.is("b 2", x.cheapest(0, 2, 1, 0, 0, 0), Due.BAD);
        due.is("s 0", x.cheapest(0, 0, 0, 0, 0, 0), Due.BAD);
        due.is("s 21", x.cheapest(0, 0, 21, 0, 0, 0), Due.BAD);
        due.is("x -1", x.cheapest(0, 0, 1, -1, 0, 0), Due.BAD);
        due.is("x 21", x.cheapest(0, 0, 1, 21, 0, 0), Due.BAD);
        due.is("t -1", x.cheapest(0, 0, 1, 0, -1, 0), Due.BAD);
        due.is("t 100", x.cheapest(0, 0, 1, 0, 100, 0), Due.BAD);
        due.is("what -1", x.cheapest(0, 0, 1, 20, 0, -1), Due.BAD);
        due.is("what 3", x.cheapest(0, 0, 1, 20, 0, 3), Due.BAD);
        due.is("s 20, x 20, t 99", x.cheapest(0, 0, 20, 20, 99, 0), 0);
    }

    private static void tunedForetells() {
        WindHarp x = Due.harp("tree 10 1 0 1; tree 20 1 0 0; wind 0 20 1; tune 100 50;");
        due.is("tuned(0, 0, 0)", x.tuned(0, 0, 0), 1);
        due.is("tuned(0, 0, 10)", x.tuned(0, 0, 10), 2);
        due.is("tuned(0, 1, 0)", x.tuned(0, 1, 0), Due.NONE);
        due.is("nothing changes", x.tree(0, 0), 10);
        due.is("no year goes", x.count(4), 0);
        due.is("t 83", x.tuned(0, 0, 83), 49);
        due.is("t 84", x.tuned(0, 0, 84), 53);
        due.is("t 85", x.tuned(0, 0, 85), 57);
        x.go(1);
        due.is("now it is off", x.tuned(0, 0, 0), 0);
        due.is("from now on", x.tuned(0, 0, 10), 1);
        Due.orders(x, "ice 0;");
        due.is("one is put in", x.tuned(0, 1, 0), Due.NONE);
        Due.wood(x, "tree 40 1 0 1; wind 0 20 1; tune 25;");
        due.is("10 is 91 long", x.tuned(0, 0, 14), 51);
        Due.wood(x, "tree 41 1 0 1; wind 0 20 1; tune 24;");
        due.is("10 is 91 long", x.tuned(0, 0, 13), 50);
        Due.wood(x, "tree 31 1 0 1; wind 0 20 1; tune 32;");
        due.is("in year 60", x.tuned(0, 0, 21), 60);
        due.is("behind year 60", x.tuned(0, 0, 22), Due.NONE);
        due.is("wind 1", x.tuned(1, 0, 0), Due.BAD);
        due.is("wind -1", x.tuned(-1, 0, 0), Due.BAD);
        due.is("x -1", x.tuned(0, -1, 0), Due.BAD);
        due.is("x 21", x.tuned(0, 21, 0), Due.BAD);
        due.is("t -1", x.tuned(0, 0, -1), Due.BAD);
        due.is("t 100", x.tuned(0, 0, 100), Due.BAD);
    }

    private static void isPlayed(String what, WindHarp x, int slack, int t, int above, int below) {
        due.is(what + " above", x.plays(slack, t, 0), above);
        due.is(what + " below", x.plays(slack, t, 1), below);
    }

    private static void playsByOdds() {
        due.is("plays without a wood", new WindHarp().plays(0, 0, 0), Due.STATE);
        due.is("plays without a wood, ahead of BAD", new WindHarp().plays(-1, 0, 0), Due.STATE);
        WindHarp x = Due.harp("tree 10 1 0 0;");
        isPlayed("no winds", x, 0, 0, Due.NONE, Due.NONE);
        due.is("no winds, BAD", x.plays(0, 0, 2), Due.BAD);
        Due.wood(x, "tree 10 1 0 0; tree 10 2 3 0; wind 0 9 20; wind 3 9 25; wind 6 9 15; tune 100;");
        isPlayed("wind 0", x, 0, 0, 1, 3);
        isPlayed("all", x, 1, 0, 1, 1);
        isPlayed("wind 0 and 1", x, 0, 99, 1, 3);
        Due.orders(x, "let 1 10;");
        isPlayed("wind 0 and 1", x, 0, 0, 3, 4);
        Due.orders(x, "fell 0; fell 1;");
        isPlayed("none", x, 0, 0, 0, 1);
        Due.wood(x, "tree 10 1 0 0; wind 0 9 1; tune 100;");
        isPlayed("odds of 1", x, 0, 0, 1, 1);
        due.is("x -1", x.plays(-1, 0, 0), Due.BAD);
        due.is("x 21", x.plays(21, 0, 0), Due.BAD);
        due.is("t -1", x.plays(0, -1, 0), Due.BAD);
        due.is("t 100", x.plays(0, 100, 0), Due.BAD);
        due.is("what -1", x.plays(0, 0, -1), Due.BAD);
        due.is("what 2", x.plays(0, 0, 2), Due.BAD);
    }

    private static void buzzing() {
        WindHarp x = Due.harp("tree 30 3 0 0; tree 29 3 0 0; tree 31 3 0 0; tree 30 3 4 0; tree 10 1 0 0; wind 0 20 1;"
            + "wind 4 20 1; wind 2 20 1;");
        due.is("100 103 96 . 100", x.buzz(0), 0b10011);
        due.is("one alone", x.buzz(1), 0);
        due.is("none", x.buzz(2), 0);
        Due.orders(x, "fell 1;");
        due.is("100 96 100", x.buzz(0), 0);
        Due.orders(x, "let 0 1; let 4 1;");
        due.is("96 96 90", x.buzz(0), 0);
        Due.wood(x, "tree 50 5 0 0; tree 99 10 0 0; tree 98 10 0 0; tree 97 10 0 0; wind 0 20 1;");
        due.is("100 101 102 103", x.buzz(0), 0b1111);
        due.is("buzz(-1)", x.buzz(-1), Due.BAD);
        due.is("buzz(1)", x.buzz(1), Due.BAD);
        due.is("buzz without a wood", new WindHarp().buzz(0), Due.BAD);
    }

    private static void birdsAreLeft() {
        WindHarp x = Due.harp("tree 10 1 0 0; tree 10 2 0 0; tree 10 3 0 0; wind 0 20 1; wind 4 20 1;");
        Due.items(x, 0, 2, 100, 150, 200, 300, 300, 100);
        due.is("three of six", x.birds(0, 0, 0, 6, 0), 3);
        due.is("from 1 on", x.birds(0, 0, 1, 5, 0), 3);
        due.is("50 apart", x.birds(0, 0, 0, 2, 50), 0);
        due.is("49 apart", x.birds(0, 0, 0, 2, 49), 1);
        due.is("none sounds", x.birds(1, 0, 0, 6, 99), 6);
        due.is("the last alone", x.birds(0, 0, 5, 1, 0), 0);
        due.is("a tone is no two", x.birds(0, 0, 3, 2, 0), 1);
        Due.items(x, 0, 2, 300, 200, 100);
        due.is("in order", x.birds(0, 0, 0, 3, 0), 2);
        Due.items(x, 0, 2, Integer.MIN_VALUE, Integer.MAX_VALUE, -2147483549, -100);
        due.is("far apart", x.birds(0, 0, 0, 4, 99), 4);
        Due.items(x, 1, 0, 100, 200);
        due.is("bytes", x.birds(0, 1, 0, 2, 0), 1);
        Due.wood(x, "tree 10 1 0 0;".repeat(11) + "tree 10 2 0 0; wind 0 20 1;");
        Due.items(x, 1, 1, 200, 100, 200, 200);
        due.is("the twelfth tone", x.birds(0, 1, 0, 4, 0), 2);
        due.is("heard anew, nothing is left of the first", x.birds(0, 1, 0, 1, 0), 0);
        x.row(2, 1, 40);
        due.is("twenty", x.birds(0, 2, 20, 20, 99), 20);
        Due.wood(x, "tree 99 1 0 0; wind 0 20 1;");
        due.is("items are 0 at first", x.birds(0, 2, 0, 1, 10), 0);
        due.is("items are 0 at first", x.birds(0, 2, 0, 1, 9), 1);
    }

    private static void birdsRefuse() {
        WindHarp x = Due.harp("tree 10 1 0 0; wind 0 20 1;");
        due.is("a missing row", x.birds(0, 0, -1, 1, 0), Due.NULL);
        due.is("status()", x.status(), 1);
        x.row(0, 0, 5);
        due.is("wind -1", x.birds(-1, 0, 0, 1, 0), Due.BAD);
        due.is("wind 1", x.birds(1, 0, 0, 1, 0), Due.BAD);
        due.is("row -1", x.birds(0, -1, 0, 1, 0), Due.BAD);
        due.is("row 8", x.birds(0, 8, 0, 1, 0), Due.BAD);
        due.is("n 0", x.birds(0, 1, 0, 0, 0), Due.BAD);
        due.is("n 21", x.birds(0, 1, 0, 21, 0), Due.BAD);
        due.is("t -1", x.birds(0, 1, 0, 1, -1), Due.BAD);
        due.is("t 100", x.birds(0, 1, 0, 1, 100), Due.BAD);
        due.is("status() behind BAD", x.status(), 0);
        due.is("i -1", x.birds(0, 0, -1, 1, 0), Due.PLACE);
        due.is("status()", x.status(), 2);
        due.is("i 5", x.birds(0, 0, 5, 1, 0), Due.PLACE);
        due.is("n 6", x.birds(0, 0, 0, 6, 0), Due.PLACE);
        due.is("i max", x.birds(0, 0, Integer.MAX_VALUE, 20, 0), Due.PLACE);
        due.is("n 5", x.birds(0, 0, 0, 5, 0), 5);
        due.is("status()", x.status(), 0);
    }

    private static void wiresAreHung() {
        WindHarp x = new WindHarp();
        due.is("the least of many", x.hung(1, 0, 10, 0), 91);
        due.is("behind years", x.hung(1, 1, 10, 60), 31);
        due.is("grows 5", x.hung(20, 5, 64, 60), 10);
        due.is("99 at most", x.hung(3, 0, 30, 0), 97);
        due.is("no such tone", x.hung(1, 0, 9, 0), Due.NONE);
        due.is("99", x.hung(20, 0, 202, 0), 99);
        due.is("beyond 99", x.hung(20, 0, 200, 0), Due.NONE);
        due.is("u 0", x.hung(1, 5, 0, 60), Due.NONE);
        due.is("u 2000", x.hung(20, 5, 2000, 0), 10);
        due.is("p 0", x.hung(0, 0, 1, 0), Due.BAD);
        due.is("p 21", x.hung(21, 0, 1, 0), Due.BAD);
        due.is("g -1", x.hung(1, -1, 1, 0), Due.BAD);
        due.is("g 6", x.hung(1, 6, 1, 0), Due.BAD);
        due.is("u -1", x.hung(1, 0, -1, 0), Due.BAD);
        due.is("u 2001", x.hung(1, 0, 2001, 0), Due.BAD);
        due.is("y -1", x.hung(1, 0, 1, -1), Due.BAD);
        due.is("y 61", x.hung(1, 0, 1, 61), Due.BAD);
        Due.wood(x, "tree 10 1 0 0;");
        Due.orders(x, "wet;");
        due.is("dry though the wood is wet", x.hung(1, 0, 100, 0), 10);
    }

    private static void treesAreMissing() {
        WindHarp x = Due.harp("tree 10 1 0 0; tree 10 2 4 0; tree 10 1 1 0; tree 10 2 0 0; tree 10 1 7 0;"
            + "wind 0 20 1; wind 2 1 1; wind 5 20 1; wind 6 20 1;");
        Due.items(x, 0, 1, 100, 100, 200, 100);
        due.is("100 alone", x.missing(0, 0, 1, -1), 3);
        due.is("without trees 0, 2, 3", x.missing(0, 0, 1, 0), 0b01101);
        due.is("without trees 0, 3, 4", x.missing(0, 0, 1, 1), 0b11001);
        due.is("without trees 2, 3, 4", x.missing(0, 0, 1, 2), 0b11100);
        due.is("not so many", x.missing(0, 0, 1, 3), Due.NONE);
        due.is("not so many", x.missing(0, 0, 1, Integer.MAX_VALUE), Due.NONE);
        due.is("100 100", x.missing(0, 0, 2, -1), 3);
        due.is("100 100 200", x.missing(0, 0, 3, -1), 1);
        due.is("100 100 200", x.missing(0, 0, 3, 0), 0b10000);
        due.is("all", x.missing(0, 0, 4, -1), 1);
        due.is("all", x.missing(0, 0, 4, 0), 0);
        due.is("nothing heard", x.missing(0, 0, 0, -1), 1);
        due.is("nothing heard", x.missing(0, 0, 0, 0), 0b11101);
        due.is("nothing heard", x.missing(0, 0, 0, 1), Due.NONE);
        due.is("another wind", x.missing(2, 0, 0, 0), 0b00010);
        Due.orders(x, "fell 1;");
        due.is("no sound, nothing heard", x.missing(2, 0, 0, -1), 1);
        due.is("no sound, nothing heard", x.missing(2, 0, 0, 0), 0);
        due.is("no sound, one heard", x.missing(2, 0, 1, -1), 0);
        x.set(0, 0, 101);
        due.is("one apart is another", x.missing(0, 0, 1, -1), 0);
        due.is("none of none", x.missing(0, 0, 1, 0), Due.NONE);
        Due.wood(x, "tree 10 1 0 0;".repeat(12) + "wind 0 20 1;");
        Due.items(x, 0, 1, 100, 100, 100, 100, 100, 100, 100, 100, 100, 100, 100, 100);
        due.is("six of twelve", x.missing(0, 0, 6, -1), 924);
        due.is("the last of them", x.missing(0, 0, 6, 923), 0b111111000000);
        due.is("all twelve", x.missing(0, 0, 12, 0), 0);
    }

    private static void missingRefuses() {
        WindHarp x = Due.harp("tree 10 1 0 0; wind 0 20 1;");
        due.is("a missing row", x.missing(0, 0, 0, -1), Due.NULL);
        due.is("status()", x.status(), 1);
        x.row(0, 0, 5);
        due.is("wind -1", x.missing(-1, 0, 0, 0), Due.BAD);
        due.is("wind 1", x.missing(1, 0, 0, 0), Due.BAD);
        due.is("row -1", x.missing(0, -1, 0, 0), Due.BAD);
        due.is("row 8", x.missing(0, 8, 0, 0), Due.BAD);
        due.is("n -1", x.missing(0, 1, -1, 0), Due.BAD);
        due.is("n 13", x.missing(0, 1, 13, 0), Due.BAD);
        due.is("i -2", x.missing(0, 1, 0, -2), Due.BAD);
        due.is("status() behind BAD", x.status(), 0);
        due.is("n 6 of 5", x.missing(0, 0, 6, 0), Due.PLACE);
        due.is("status()", x.status(), 2);
        due.is("n 5 of 5", x.missing(0, 0, 5, 0), Due.NONE);
        due.is("status()", x.status(), 0);
    }
}
