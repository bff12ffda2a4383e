/** Promises 14 to 21, edge by edge: a method for each sentence of the document that names one. */
public final class HeardEdgesTest {
    private static final Due due = new Due("HeardEdgesTest");
    private static final int MIN = Integer.MIN_VALUE, MAX = Integer.MAX_VALUE;
    private static final int[] NO_WINDS = {MIN, -1, 2, 6, MAX};
    private static final int[] NO_T = {MIN, -1, 100, MAX};
    private static final int[] NO_X = {MIN, -1, 21, MAX};
    private static final int[] NO_ROWS = {MIN, -1, 8, MAX};

    public static void main(String[] args) {
        aliked();
        emptyTunesAndSounds();
        twelveAndTen();
        slipsBad();
        noWindsNoWood();
        cutByZeroToThree();
        staysTenOrMore();
        noMoreThanX();
        firstFive();
        fifteenSteps();
        tiesOfOneSum();
        noTreeIsCut();
        cheapestChangesNothing();
        cheapestBad();
        tunedNow();
        tunedIn60();
        tunedGrowth();
        tunedWithX();
        tunedChangesNothing();
        tunedBad();
        lowestTerms();
        zeroByOne();
        playsNone();
        playsState();
        playsBad();
        oneToThreeApart();
        buzzOfTwelve();
        buzzBad();
        asManyAsCanBe();
        birdsByT();
        birdsOfFarItems();
        birdsOfLanes();
        birdsOfTwenty();
        birdsBad();
        birdsNull();
        birdsPlace();
        leastLength();
        tenTo99();
        hungEdges();
        hungBad();
        justThatRow();
        leastFirst();
        nothingHeard();
        twelveMissing();
        missingNone();
        missingBad();
        missingNull();
        missingPlace();
        due.end();
    }

    private static void aliked() {
        due.says("two are the same if they are t or less apart (t 0 to 99)");
        int[][] told = {{100, 0, 0}, {99, 0, 1}, {101, 0, 1}, {99, 1, 0}, {101, 1, 0}, {98, 1, 1}, {102, 1, 1}, {1, 99, 0},
            {199, 99, 0}, {0, 99, 1}, {200, 99, 1}, {999, 99, 1}};
        for (int[] one : told) {
            WindHarp x = Due.harp("tree 10 1 0 0; wind 0 20 1; tune " + one[0] + ";");
            due.is("100, " + one[0] + " by " + one[1], x.slips(0, one[1]), one[2]);
        }
        WindHarp x = Due.harp("tree 10 20 0 0; wind 0 20 1; tune 999;");
        due.is("2000 and 999", x.slips(0, 99), 1);
    }

    private static void emptyTunesAndSounds() {
        due.says("the fewest TONES left out, put in, or sung for another one");
        WindHarp x = Due.harp("tree 10 1 0 0; tree 10 2 0 0; wind 0 20 1; wind 4 20 1;");
        due.is("a SOUND, no tune", x.slips(0, 99), 2);
        due.is("no SOUND, no tune", x.slips(1, 0), 0);
        Due.wood(x, "tree 10 1 0 0; tree 10 2 0 0; wind 0 20 1; wind 4 20 1; tune 100 200;");
        due.is("just the tune", x.slips(0, 0), 0);
        due.is("no SOUND, a tune", x.slips(1, 0), 2);
        int[][] told = {{100, 100, 200, 1}, {100, 150, 200, 1}, {200, 100, 200, 1}, {100, 200, 100, 1}, {200, 200, 100, 2},
            {300, 100, 300, 2}, {300, 300, 300, 3}};
        for (int[] one : told) {
            Due.wood(x, "tree 10 1 0 0; tree 10 2 0 0; wind 0 20 1; tune " + one[0] + " " + one[1] + " " + one[2] + ";");
            due.is("100 200 to " + one[0] + " " + one[1] + " " + one[2], x.slips(0, 0), one[3]);
        }
        Due.wood(x, "tree 10 1 0 0; tree 10 2 0 0; tree 10 3 0 0; wind 0 20 1; tune 200 300 100;");
        due.is("one left out, one put in", x.slips(0, 0), 2);
    }

    private static void twelveAndTen() {
        due.says("SLIPS: 12 TREES, 10 TONES at most");
        String trees = "tree 10 1 0 0;".repeat(12) + "wind 0 20 1; wind 4 20 1;";
        WindHarp x = Due.harp(trees + "tune 100 100 100 100 100 100 100 100 100 100;");
        due.is("two left out", x.slips(0, 0), 2);
        due.is("ten put in", x.slips(1, 0), 10);
        Due.wood(x, trees + "tune 0 0 0 0 0 0 0 0 0 0;");
        due.is("all other ones", x.slips(0, 99), 12);
        Due.wood(x, trees);
        due.is("twelve left out", x.slips(0, 0), 12);
        Due.wood(x, trees + "tune 0 0 0 0 0 0 0 0 0 100;");
        due.is("the last is the same", x.slips(0, 0), 11);
        Due.wood(x, trees + "tune 100 0 0 0 0 0 0 0 0 0;");
        due.is("the first is the same", x.slips(0, 0), 11);
    }

    private static void slipsBad() {
        due.says("14: BAD");
        for (int wind : NO_WINDS) {
            Twins.unchanged(due, "slips(" + wind + ", 0)", x -> x.slips(wind, 0), Due.BAD);
        }
        for (int t : NO_T) {
            Twins.unchanged(due, "slips(0, " + t + ")", x -> x.slips(0, t), Due.BAD);
        }
    }

    private static void noWindsNoWood() {
        due.says("BAD (there is no such thing): no WINDS");
        WindHarp x = Due.harp("tree 10 1 0 0;");
        x.row(0, 0, 1);
        due.is("slips", x.slips(0, 0), Due.BAD);
        due.is("cheapest", x.cheapest(0, 0, 1, 0, 0, 0), Due.BAD);
        due.is("tuned", x.tuned(0, 0, 0), Due.BAD);
        due.is("buzz", x.buzz(0), Due.BAD);
        due.is("birds", x.birds(0, 0, 0, 1, 0), Due.BAD);
        due.is("missing", x.missing(0, 0, 0, -1), Due.BAD);
        due.is("kind", x.kind(0, 0), Due.BAD);
        due.is("as", x.as(0, 0, 0), Due.BAD);
        due.is("ask", x.ask(0, 0, 0), Due.BAD);
    }

    private static void isCheapest(String what, WindHarp x, int[] p, int sum, int slips, int steps) {
        due.is(what + ", sum", x.cheapest(p[0], p[1], p[2], p[3], p[4], 0), sum);
        due.is(what + ", SLIPS in b", x.cheapest(p[0], p[1], p[2], p[3], p[4], 1), slips);
        due.is(what + ", steps", x.cheapest(p[0], p[1], p[2], p[3], p[4], 2), steps);
    }

    private static void isNever(String what, WindHarp x, int[] p) {
        isCheapest(what, x, p, Due.NONE, Due.NONE, Due.NONE);
    }

    private static void cutByZeroToThree() {
        due.says("each is cut by 0 to 3 times s (1 to 20)");
        int[][] told = {{1, 24}, {20, 94}};
        for (int[] one : told) {
            int s = one[0];
            int length = one[1];
            for (int steps = 0; steps < 4; steps++) {
                int tone = 10000 / (length - steps * s);
                WindHarp x = Due.harp("tree " + length + " 10 0 0; wind 0 20 1; wind 4 20 1; tune " + tone + ";");
                isCheapest(steps + " times " + s, x, new int[] {0, 1, s, 0, 0}, steps, 1, steps);
            }
            WindHarp x = Due.harp("tree " + length + " 10 0 0; wind 0 20 1; tune " + 10000 / (length - 4 * s) + ";");
            isNever("4 times " + s, x, new int[] {0, 0, s, 0, 0});
        }
    }

    private static void staysTenOrMore() {
        due.says("by which LENGTH stays 10 or more");
        WindHarp x = Due.harp("tree 13 1 0 0; wind 0 20 1; tune 100;");
        isCheapest("13 by 1 is 10", x, new int[] {0, 0, 1, 0, 0}, 3, 0, 3);
        Due.wood(x, "tree 70 1 0 0; wind 0 20 1; tune 100;");
        isCheapest("70 by 20 is 10", x, new int[] {0, 0, 20, 0, 0}, 3, 0, 3);
        Due.wood(x, "tree 69 1 0 0; wind 0 20 1; tune 111;");
        isNever("69 by 20 is not 9", x, new int[] {0, 0, 20, 0, 0});
        isNever("69 by 20 is not 10", x, new int[] {0, 0, 20, 0, 11});
        Due.wood(x, "tree 10 1 0 0; wind 0 20 1; tune 100;");
        isCheapest("10 is not cut", x, new int[] {0, 0, 1, 0, 0}, 0, 0, 0);
        Due.wood(x, "tree 10 1 0 0; tree 30 1 0 0; tree 11 1 0 0; wind 0 20 1; tune 100 50 100;");
        isCheapest("10 by 10 is not 0, the next is 20", x, new int[] {0, 0, 10, 1, 0}, 1, 1, 4);
        isNever("11 by 10 is not 10", x, new int[] {0, 0, 10, 0, 0});
    }

    private static void noMoreThanX() {
        due.says("by which SLIPS in a are no more than x (0 to 20)");
        WindHarp x = Due.harp("tree 20 1 0 0; tree 20 1 0 0; tree 20 1 0 0; wind 0 20 1; tune 100 100 100;");
        isCheapest("x 0", x, new int[] {0, 0, 10, 0, 0}, 3, 0, 21);
        isCheapest("x 1", x, new int[] {0, 0, 10, 1, 0}, 2, 1, 5);
        isCheapest("x 2", x, new int[] {0, 0, 10, 2, 0}, 1, 2, 1);
        isCheapest("x 3", x, new int[] {0, 0, 10, 3, 0}, 0, 3, 0);
        isCheapest("x 20", x, new int[] {0, 0, 10, 20, 0}, 0, 3, 0);
        isCheapest("t 49", x, new int[] {0, 0, 10, 0, 49}, 3, 0, 21);
        isCheapest("t 50", x, new int[] {0, 0, 10, 0, 50}, 0, 0, 0);
        isCheapest("t 99", x, new int[] {0, 0, 10, 0, 99}, 0, 0, 0);
        Due.wood(x, "tree 20 1 0 0; wind 0 20 1; tune 100 100 100;");
        isNever("never x 1", x, new int[] {0, 0, 10, 1, 0});
    }

    private static void firstFive() {
        due.says("TREES that SOUND in a, the first 5 of them");
        String five = "tree 20 1 4 0; tree 20 1 0 0; tree 20 1 1 0; tree 20 1 0 0; tree 20 1 7 0; tree 20 1 0 0;";
        WindHarp x = Due.harp(five + "tree 20 1 0 0; wind 0 20 1; tune 100 100 100 100 100 100;");
        isNever("the sixth is not cut", x, new int[] {0, 0, 10, 0, 0});
        isCheapest("all the five are", x, new int[] {0, 0, 10, 1, 0}, 5, 1, 341);
        Due.orders(x, "ice 2;");
        isCheapest("but for one with ICE", x, new int[] {0, 0, 10, 1, 0}, 5, 1, 341);
        Due.orders(x, "turn 3 3;");
        isCheapest("of the four that SOUND, all", x, new int[] {0, 0, 10, 2, 0}, 4, 2, 85);
    }

    private static void fifteenSteps() {
        due.says("rows of steps: 3 of each of five TREES are the most");
        String wires = "tree 13 1 0 0;".repeat(5) + "wind 0 20 1;";
        WindHarp x = Due.harp(wires + "tune 100 100 100 100 100;");
        isCheapest("three each", x, new int[] {0, 0, 1, 0, 0}, 15, 0, 1023);
        isCheapest("but for one", x, new int[] {0, 0, 1, 1, 0}, 12, 1, 255);
        Due.wood(x, wires + "tune 90 100 100 100 100;");
        isCheapest("two of the first", x, new int[] {0, 0, 1, 0, 0}, 14, 0, 767);
        Due.wood(x, wires + "tune 100 100 100 100 90;");
        isCheapest("two of the last", x, new int[] {0, 0, 1, 0, 0}, 14, 0, 1022);
    }

    private static void tiesOfOneSum() {
        due.says("of these the least sum of steps, then the most SLIPS in b, then the first by steps, TREE by TREE");
        WindHarp x = Due.harp("tree 20 1 0 0; tree 20 1 1 0; wind 0 20 1; wind 7 20 1; wind 2 20 1; tune 50;");
        isCheapest("the least sum, though it spoils none", x, new int[] {0, 1, 5, 1, 0}, 0, 0, 0);
        Due.wood(x, "tree 20 1 0 0; tree 20 1 1 0; wind 0 20 1; wind 7 20 1; wind 2 20 1; tune 66;");
        isCheapest("spoils what the second sounds in", x, new int[] {0, 2, 5, 1, 0}, 1, 1, 4);
        isCheapest("spoils what the first sounds in", x, new int[] {0, 1, 5, 1, 0}, 1, 1, 1);
        isCheapest("spoils both", x, new int[] {0, 0, 5, 1, 0}, 1, 1, 1);
        Due.wood(x, "tree 20 1 0 0; tree 20 1 0 0; tree 20 1 0 0; wind 0 20 1; wind 4 20 1; tune 66 66;");
        isCheapest("three rows of sum 2, the first", x, new int[] {0, 1, 5, 1, 0}, 2, 2, 5);
        Due.wood(x, "tree 20 1 0 0; wind 0 20 1; wind 4 20 1; tune 200;");
        isNever("b is not heard where there is no row", x, new int[] {0, 1, 5, 0, 0});
    }

    private static void noTreeIsCut() {
        due.says("CHEAPEST: no TREE SOUNDS in a");
        WindHarp x = Due.harp("tree 20 1 0 0; wind 4 20 1; wind 0 20 1; tune 100;");
        isNever("x 0", x, new int[] {0, 1, 10, 0, 0});
        isCheapest("x 1", x, new int[] {0, 1, 10, 1, 0}, 0, 1, 0);
        Due.wood(x, "tree 20 1 0 0; wind 4 20 1; wind 0 20 1;");
        isCheapest("no tune", x, new int[] {0, 1, 10, 0, 0}, 0, 1, 0);
    }

    private static void cheapestChangesNothing() {
        due.says("(Nothing changes by these.)");
        Twins.unchanged(due, "cheapest(0, 1, 1, 20, 0, 0)", x -> x.cheapest(0, 1, 1, 20, 0, 0), 0);
        Twins.unchanged(due, "cheapest(0, 1, 3, 0, 0, 0)", x -> x.cheapest(0, 1, 3, 0, 0, 0), Due.NONE);
    }

    private static void cheapestBad() {
        due.says("15: BAD");
        for (int wind : NO_WINDS) {
            Twins.unchanged(due, "a " + wind, x -> x.cheapest(wind, 0, 1, 20, 0, 0), Due.BAD);
            Twins.unchanged(due, "b " + wind, x -> x.cheapest(0, wind, 1, 20, 0, 0), Due.BAD);
        }
        for (int s : new int[] {MIN, -1, 0, 21, MAX}) {
            Twins.unchanged(due, "s " + s, x -> x.cheapest(0, 0, s, 20, 0, 0), Due.BAD);
        }
        for (int slack : NO_X) {
            Twins.unchanged(due, "x " + slack, x -> x.cheapest(0, 0, 1, slack, 0, 0), Due.BAD);
        }
        for (int t : NO_T) {
            Twins.unchanged(due, "t " + t, x -> x.cheapest(0, 0, 1, 20, t, 0), Due.BAD);
        }
        for (int what : new int[] {MIN, -1, 3, MAX}) {
            Twins.unchanged(due, "what " + what, x -> x.cheapest(0, 0, 1, 20, 0, what), Due.BAD);
            Twins.unchanged(due, "what " + what + " of no row", x -> x.cheapest(0, 0, 1, 0, 0, what), Due.BAD);
        }
    }

    private static void tunedNow() {
        due.says("TUNED: the first year from now on (0 to 60): 0");
        WindHarp x = Due.harp("tree 10 1 0 1; wind 0 20 1; tune 90;");
        due.is("off now, right in a year", x.tuned(0, 0, 0), 0);
        x.go(1);
        due.is("right now, off in a year", x.tuned(0, 0, 0), 1);
        x.go(1);
        due.is("off", x.tuned(0, 0, 0), 0);
    }

    /** TONE 14 up to LENGTH 71, 13 up to 76, 12 from 77 on. */
    private static void tunedIn60() {
        due.says("TUNED: the first year from now on (0 to 60): 60; NONE");
        WindHarp x = Due.harp("tree 12 1 0 1; wind 0 20 1; tune 83;");
        due.is("behind 60 years", x.tuned(0, 0, 69), 60);
        due.is("behind no year up to 60", x.tuned(0, 0, 70), Due.NONE);
        x.go(1);
        due.is("a year later", x.tuned(0, 0, 69), 59);
        x.go(58);
        due.is("59 years later", x.tuned(0, 0, 69), 1);
        due.is("59 years later, t 70", x.tuned(0, 0, 70), 6);
        Due.wood(x, "tree 11 1 0 1; wind 0 20 1; tune 90;");
        due.is("behind 61 years", x.tuned(0, 0, 76), Due.NONE);
        x.go(1);
        due.is("behind 60 years", x.tuned(0, 0, 76), 60);
    }

    private static void tunedGrowth() {
        due.says("TUNED: behind YEARS (999 at most; but where ICE is, or FELLED)");
        WindHarp x = Due.harp("tree 10 20 0 5; wind 0 20 1; tune 20;");
        Due.orders(x, "let 0 89;".repeat(11));
        due.is("20000 by 989 to 999 is 20", x.tuned(0, 0, 0), Due.NONE);
        Due.wood(x, "tree 10 1 0 5; wind 0 20 1; tune 100;");
        due.is("grows by 5", x.tuned(0, 0, 50), 3);
        Due.orders(x, "ice 0;");
        due.is("with ICE it is off", x.tuned(0, 0, 50), 0);
        due.is("with ICE it stays so", x.tuned(0, 1, 50), Due.NONE);
        Due.wood(x, "tree 10 1 0 0; wind 0 20 1; tune 100;");
        due.is("grows by 0", x.tuned(0, 0, 0), Due.NONE);
        Due.wood(x, "tree 10 10 0 5; wind 0 20 1; tune 950;");
        Due.orders(x, "wet;");
        due.is("wet", x.tuned(0, 0, 0), 1);
    }

    private static void tunedWithX() {
        due.says("TUNED: SLIPS above x (0 to 20)");
        WindHarp x = Due.harp("tree 10 1 0 1; tree 10 1 0 2; tree 10 1 0 0; wind 0 20 1; tune 100 100 100;");
        due.is("above 0", x.tuned(0, 0, 20), 2);
        due.is("above 1", x.tuned(0, 1, 20), 3);
        due.is("above 2", x.tuned(0, 2, 20), Due.NONE);
        due.is("above 20", x.tuned(0, 20, 0), Due.NONE);
        Due.wood(x, "tree 10 1 4 5; wind 0 20 1;");
        due.is("no SOUND, no tune", x.tuned(0, 0, 0), Due.NONE);
    }

    private static void tunedChangesNothing() {
        due.says("(Nothing changes by these.)");
        Twins.unchanged(due, "tuned(0, 0, 0)", x -> x.tuned(0, 0, 0), 0);
        Twins.unchanged(due, "tuned(0, 20, 99)", x -> x.tuned(0, 20, 99), Due.NONE);
    }

    private static void tunedBad() {
        due.says("16: BAD");
        for (int wind : NO_WINDS) {
            Twins.unchanged(due, "tuned(" + wind + ", 0, 0)", x -> x.tuned(wind, 0, 0), Due.BAD);
        }
        for (int slack : NO_X) {
            Twins.unchanged(due, "x " + slack, x -> x.tuned(0, slack, 0), Due.BAD);
        }
        for (int t : NO_T) {
            Twins.unchanged(due, "t " + t, x -> x.tuned(0, 0, t), Due.BAD);
        }
    }

    private static void isPlayed(String what, WindHarp x, int slack, int t, int above, int below) {
        due.is(what + ", above", x.plays(slack, t, 0), above);
        due.is(what + ", below", x.plays(slack, t, 1), below);
    }

    private static WindHarp fourWinds(int... odds) {
        return Due.harp("tree 10 1 0 0; tree 10 2 2 0; tree 10 3 4 0; wind 0 20 " + odds[0] + "; wind 2 20 " + odds[1]
            + "; wind 4 20 " + odds[2] + "; wind 6 20 " + odds[3] + "; tune 100;");
    }

    private static void lowestTerms() {
        due.says("a fraction: fractions, told as two numbers in lowest terms");
        isPlayed("6 by 24", fourWinds(6, 6, 6, 6), 0, 0, 1, 4);
        isPlayed("99 by 297", fourWinds(99, 97, 98, 3), 0, 0, 1, 3);
        isPlayed("7 by 10", fourWinds(7, 1, 1, 1), 0, 0, 7, 10);
        isPlayed("99 by 102", fourWinds(99, 1, 1, 1), 0, 0, 33, 34);
        isPlayed("1 by 298", fourWinds(1, 99, 99, 99), 0, 0, 1, 298);
        isPlayed("all by all", fourWinds(99, 98, 97, 96), 1, 0, 1, 1);
        WindHarp x = Due.harp("tree 10 1 0 0;" + "wind 0 20 99;".repeat(6) + "tune 100;");
        isPlayed("594 by 594", x, 0, 0, 1, 1);
        Due.wood(x, "tree 10 1 0 0;" + "wind 4 20 99;".repeat(5) + "wind 0 20 99; tune 100;");
        isPlayed("99 by 594", x, 0, 0, 1, 6);
    }

    private static void zeroByOne() {
        due.says("(0 is 0 by 1)");
        WindHarp x = fourWinds(6, 6, 6, 6);
        Due.orders(x, "fell 0;");
        isPlayed("0 by 24", x, 0, 0, 0, 1);
        isPlayed("no more than x", x, 1, 0, 1, 1);
        Due.wood(x, "tree 10 1 0 0; wind 4 20 99; tune 100;");
        isPlayed("0 by 99", x, 0, 99, 0, 1);
        Due.wood(x, "tree 10 1 0 0; wind 4 20 1; tune 100;");
        isPlayed("0 by 1", x, 0, 99, 0, 1);
        Due.wood(x, "tree 10 1 0 0; wind 0 20 1; tune 100;");
        isPlayed("1 by 1", x, 0, 0, 1, 1);
    }

    private static void playsNone() {
        due.says("17: NONE: there are no WINDS");
        WindHarp x = Due.harp("tree 10 1 0 0; tune 100;");
        isPlayed("no WINDS", x, 0, 0, Due.NONE, Due.NONE);
        isPlayed("no WINDS", x, 20, 99, Due.NONE, Due.NONE);
        due.is("BAD ahead of NONE", x.plays(0, 0, 2), Due.BAD);
        due.is("BAD ahead of NONE", x.plays(21, 0, 0), Due.BAD);
        due.is("BAD ahead of NONE", x.plays(0, 100, 0), Due.BAD);
    }

    private static void playsState() {
        due.says("17: STATE: no WOOD (ahead of BAD)");
        WindHarp x = new WindHarp();
        due.is("plays(0, 0, 0)", x.plays(0, 0, 0), Due.STATE);
        due.is("plays(-1, 0, 0)", x.plays(-1, 0, 0), Due.STATE);
        due.is("plays(0, 100, 0)", x.plays(0, 100, 0), Due.STATE);
        due.is("plays(0, 0, 2)", x.plays(0, 0, 2), Due.STATE);
        due.is("plays(MAX, MIN, MAX)", x.plays(MAX, MIN, MAX), Due.STATE);
    }

    private static void playsBad() {
        due.says("17: BAD");
        for (int slack : NO_X) {
            Twins.unchanged(due, "x " + slack, x -> x.plays(slack, 0, 0), Due.BAD);
        }
        for (int t : NO_T) {
            Twins.unchanged(due, "t " + t, x -> x.plays(0, t, 0), Due.BAD);
        }
        for (int what : new int[] {MIN, -1, 2, MAX}) {
            Twins.unchanged(due, "what " + what, x -> x.plays(0, 0, what), Due.BAD);
        }
    }

    /** TONES of PULL 10 and LENGTH 97 to 99: 103, 102, 101; of 50 by 5: 100; of 48 by 5: 104. */
    private static void oneToThreeApart() {
        due.says("with a TONE 1 to 3 apart from that of another one that SOUNDS");
        String[] others = {"50 5", "99 10", "98 10", "97 10", "48 5"};
        for (int apart = 0; apart < 5; apart++) {
            boolean isBuzz = apart >= 1 && apart <= 3;
            WindHarp x = Due.harp("tree 50 5 0 0; tree " + others[apart] + " 0 0; wind 0 20 1;");
            due.is(apart + " above", x.buzz(0), isBuzz ? 3 : 0);
            Due.wood(x, "tree " + others[apart] + " 0 0; tree 50 5 0 0; wind 0 20 1;");
            due.is(apart + " below", x.buzz(0), isBuzz ? 3 : 0);
        }
        WindHarp x = Due.harp("tree 50 5 0 0; tree 99 10 4 0; tree 98 10 1 0; wind 0 20 1; wind 4 20 1; wind 2 20 1;");
        due.is("one that does not SOUND", x.buzz(0), 0b101);
        due.is("one alone", x.buzz(1), 0);
        due.is("another alone", x.buzz(2), 0);
        Due.orders(x, "ice 2;");
        due.is("one with ICE", x.buzz(0), 0);
        Due.orders(x, "thaw 2; fell 0;");
        due.is("one FELLED", x.buzz(0), 0);
    }

    private static void buzzOfTwelve() {
        due.says("BUZZ: TREES (bits)");
        WindHarp x = Due.harp("tree 99 10 0 0;" + "tree 10 10 0 0;".repeat(10) + "tree 98 10 0 0; wind 0 20 1;");
        due.is("the first, the twelfth", x.buzz(0), 0b100000000001);
        Due.wood(x, "tree 99 10 0 0;".repeat(11) + "tree 98 10 0 0; wind 0 20 1;");
        due.is("all", x.buzz(0), 0b111111111111);
        Due.wood(x, "tree 99 10 0 0;".repeat(12) + "wind 0 20 1;");
        due.is("all of one TONE", x.buzz(0), 0);
    }

    private static void buzzBad() {
        due.says("18: BAD");
        for (int wind : NO_WINDS) {
            Twins.unchanged(due, "buzz(" + wind + ")", x -> x.buzz(wind), Due.BAD);
        }
    }

    /** SOUND 100 200 300 in wind 0, none in wind 1. */
    private static WindHarp threeTones() {
        return Due.harp("tree 10 1 0 0; tree 10 2 0 0; tree 10 3 0 0; wind 0 20 1; wind 4 20 1;");
    }

    private static void asManyAsCanBe() {
        due.says("how many TONES of it are left over, if as many as can be are, in order, TONES of the SOUND, in order");
        int[][] told = {{100, 200, 300, 0}, {300, 200, 100, 2}, {100, 300, 200, 1}, {200, 300, 100, 1}, {100, 100, 100, 2},
            {200, 200, 300, 1}, {300, 100, 200, 1}, {5, 5, 5, 3}, {5, 300, 5, 2}};
        WindHarp x = threeTones();
        for (int[] one : told) {
            Due.items(x, 0, 1, one[0], one[1], one[2]);
            due.is("heard " + one[0] + " " + one[1] + " " + one[2], x.birds(0, 0, 0, 3, 0), one[3]);
        }
        due.is("no SOUND", x.birds(1, 0, 0, 3, 99), 3);
        Due.items(x, 0, 1, 300, 200, 100);
        x.slips(0, 0);
        due.is("behind slips()", x.birds(0, 0, 0, 3, 0), 2);
        due.is("behind birds()", x.slips(0, 0), 3);
    }

    private static void birdsByT() {
        due.says("(t or less apart), t 0 to 99");
        WindHarp x = threeTones();
        Due.items(x, 0, 1, 100, 101, 99, 1, 0, 399, 400);
        int[][] told = {{0, 0, 0}, {1, 0, 1}, {1, 1, 0}, {2, 0, 1}, {2, 1, 0}, {3, 98, 1}, {3, 99, 0}, {4, 99, 1}, {5, 98, 1},
            {5, 99, 0}, {6, 99, 1}};
        for (int[] one : told) {
            due.is("item " + one[0] + " by " + one[1], x.birds(0, 0, one[0], 1, one[1]), one[2]);
        }
    }

    private static void birdsOfFarItems() {
        due.says("(t or less apart), where the difference is beyond an int");
        WindHarp x = threeTones();
        int[] far = {MIN, MIN + 1, MIN + 99, MIN + 100, MIN + 101, MIN + 200, MIN + 300, MIN + 399, MAX, MAX - 99, MAX - 100,
            -1, -100, -1000, 1000000};
        for (int item : far) {
            Due.items(x, 0, 2, item, item);
            due.is("heard " + item, x.birds(0, 0, 0, 2, 99), 2);
            due.is("heard " + item + " by 0", x.birds(0, 0, 1, 1, 0), 1);
        }
    }

    private static void birdsOfLanes() {
        due.says("ITEMS of a ROW: as they are in its LANE");
        WindHarp x = threeTones();
        Due.items(x, 0, 0, 100, 200, 127);
        due.is("a byte of 100", x.birds(0, 0, 0, 1, 0), 0);
        due.is("a byte of 200 is -56", x.birds(0, 0, 1, 1, 99), 1);
        due.is("a byte of 127", x.birds(0, 0, 2, 1, 27), 0);
        Due.items(x, 0, 1, 65636, 32868);
        due.is("a short of 65636 is 100", x.birds(0, 0, 0, 1, 0), 0);
        due.is("a short of 32868 is not", x.birds(0, 0, 1, 1, 99), 1);
    }

    private static void birdsOfTwenty() {
        due.says("19: n TONES (1 to 20)");
        WindHarp x = Due.harp("tree 10 1 0 0;".repeat(11) + "tree 10 2 0 0; wind 0 20 1;");
        x.row(0, 2, 40);
        for (int i = 0; i < 40; i++) {
            x.set(0, i, i % 20 == 19 ? 200 : 100);
        }
        due.is("n 1", x.birds(0, 0, 0, 1, 0), 0);
        due.is("twelve of 20", x.birds(0, 0, 0, 20, 0), 8);
        due.is("the last 20", x.birds(0, 0, 20, 20, 0), 8);
        due.is("n 12", x.birds(0, 0, 8, 12, 0), 0);
        due.is("n 19, without the 200", x.birds(0, 0, 0, 19, 0), 8);
        due.is("the last one", x.birds(0, 0, 39, 1, 0), 0);
        due.is("status()", x.status(), 0);
    }

    private static void birdsBad() {
        due.says("19: BAD: WIND, ROW, n, t (ahead of NULL, PLACE)");
        for (int wind : NO_WINDS) {
            Twins.unchanged(due, "WIND " + wind, x -> x.birds(wind, 0, 0, 1, 0), Due.BAD);
            Twins.unchanged(due, "WIND " + wind + ", NULL", x -> x.birds(wind, 7, -1, 1, 0), Due.BAD);
        }
        for (int row : NO_ROWS) {
            Twins.unchanged(due, "ROW " + row, x -> x.birds(0, row, 0, 1, 0), Due.BAD);
        }
        for (int n : new int[] {MIN, -1, 0, 21, MAX}) {
            Twins.unchanged(due, "n " + n, x -> x.birds(0, 0, 0, n, 0), Due.BAD);
            Twins.unchanged(due, "n " + n + ", PLACE", x -> x.birds(0, 0, -1, n, 0), Due.BAD);
        }
        for (int t : NO_T) {
            Twins.unchanged(due, "t " + t, x -> x.birds(0, 0, 0, 1, t), Due.BAD);
            Twins.unchanged(due, "t " + t + ", NULL", x -> x.birds(0, 7, 0, 1, t), Due.BAD);
        }
    }

    private static void birdsNull() {
        due.says("19: NULL, ahead of PLACE");
        Twins.unchanged(due, "a ROW that is missing", x -> x.birds(0, 7, 0, 1, 0), Due.NULL);
        Twins.unchanged(due, "no place of it", x -> x.birds(0, 7, -1, 20, 99), Due.NULL);
    }

    private static void birdsPlace() {
        due.says("19: PLACE");
        Twins.unchanged(due, "i -1", x -> x.birds(0, 0, -1, 1, 0), Due.PLACE);
        Twins.unchanged(due, "i MIN", x -> x.birds(0, 0, MIN, 1, 0), Due.PLACE);
        Twins.unchanged(due, "i 3 of 3", x -> x.birds(0, 0, 3, 1, 0), Due.PLACE);
        Twins.unchanged(due, "n 4 of 3", x -> x.birds(0, 0, 0, 4, 0), Due.PLACE);
        Twins.unchanged(due, "i 1, n 3 of 3", x -> x.birds(0, 0, 1, 3, 0), Due.PLACE);
        Twins.unchanged(due, "i MAX", x -> x.birds(0, 0, MAX, 20, 0), Due.PLACE);
        Twins.unchanged(due, "i MAX - 19, n 20", x -> x.birds(0, 0, MAX - 19, 20, 0), Due.PLACE);
        Twins.unchanged(due, "of an empty ROW", x -> x.birds(0, 2, 0, 1, 0), Due.PLACE);
        WindHarp x = threeTones();
        x.row(0, 2, 40);
        due.is("i 20, n 20 of 40", x.birds(0, 0, 20, 20, 0), 20);
        due.is("i 21, n 20 of 40", x.birds(0, 0, 21, 20, 0), Due.PLACE);
        due.is("i 40, n 1 of 40", x.birds(0, 0, 40, 1, 0), Due.PLACE);
    }

    private static void leastLength() {
        due.says("HUNG: the least LENGTH (10 to 99) now; NONE");
        WindHarp x = new WindHarp();
        due.is("91 to 99", x.hung(1, 0, 10, 0), 91);
        due.is("84 to 90", x.hung(1, 0, 11, 0), 84);
        due.is("67 alone", x.hung(20, 0, 298, 0), 67);
        due.is("between two TONES", x.hung(20, 0, 297, 0), Due.NONE);
    }

    private static void tenTo99() {
        due.says("HUNG: LENGTH 10 to 99 now");
        WindHarp x = new WindHarp();
        due.is("10", x.hung(20, 0, 2000, 0), 10);
        due.is("beyond 2000 by 9", x.hung(18, 0, 2000, 0), Due.NONE);
        due.is("99", x.hung(20, 0, 202, 0), 99);
        due.is("100", x.hung(20, 0, 200, 0), Due.NONE);
        due.is("10 behind 60 years of 5", x.hung(20, 5, 64, 60), 10);
        due.is("99 behind 60 years of 5", x.hung(20, 5, 50, 60), 93);
        due.is("400 is beyond", x.hung(2, 5, 4, 60), Due.NONE);
        due.is("334", x.hung(1, 5, 2, 60), 34);
        due.is("less than 310 is beyond", x.hung(20, 5, 65, 60), Due.NONE);
    }

    private static void hungEdges() {
        due.says("20: p 1 to 20, g 0 to 5, u 0 to 2000, y 0 to 60; dry");
        WindHarp x = Due.harp("tree 10 1 0 0;");
        Due.orders(x, "wet; ice 0;");
        due.is("p 1", x.hung(1, 0, 100, 0), 10);
        due.is("p 20", x.hung(20, 0, 1818, 0), 11);
        due.is("g 5, y 0", x.hung(1, 5, 100, 0), 10);
        due.is("g 0, y 60", x.hung(1, 0, 100, 60), 10);
        due.is("g 5, y 1", x.hung(1, 5, 66, 1), 10);
        due.is("g 1, y 60", x.hung(1, 1, 14, 60), 10);
        due.is("u 0", x.hung(1, 5, 0, 60), Due.NONE);
        due.is("u 1", x.hung(1, 5, 1, 60), Due.NONE);
        due.is("u 2000", x.hung(20, 0, 2000, 60), 10);
        due.is("u 1900 is dry", x.hung(20, 0, 1900, 0), Due.NONE);
    }

    private static void hungBad() {
        due.says("20: BAD");
        for (int p : new int[] {MIN, -1, 0, 21, MAX}) {
            Twins.unchanged(due, "p " + p, x -> x.hung(p, 0, 100, 0), Due.BAD);
        }
        for (int g : new int[] {MIN, -1, 6, MAX}) {
            Twins.unchanged(due, "g " + g, x -> x.hung(1, g, 100, 0), Due.BAD);
        }
        for (int u : new int[] {MIN, -1, 2001, MAX}) {
            Twins.unchanged(due, "u " + u, x -> x.hung(1, 0, u, 0), Due.BAD);
        }
        for (int y : new int[] {MIN, -1, 61, MAX}) {
            Twins.unchanged(due, "y " + y, x -> x.hung(1, 0, 100, y), Due.BAD);
        }
        due.is("no WOOD is needed", new WindHarp().hung(1, 0, 100, 0), 10);
        due.is("BAD without a WOOD", new WindHarp().hung(0, 0, 100, 0), Due.BAD);
    }

    private static void justThatRow() {
        due.says("sets (bits) of TREES that SOUND without which the SOUND would be just that row");
        WindHarp x = threeTones();
        int[][] told = {{100, 200, 300, 0}, {100, 300, -1, 0b010}, {200, 300, -1, 0b001}, {300, -1, -1, 0b011}};
        for (int[] one : told) {
            int n = one[1] < 0 ? 1 : one[2] < 0 ? 2 : 3;
            Due.items(x, 0, 2, one[0], one[1], one[2]);
            due.is("how many", x.missing(0, 0, n, -1), 1);
            due.is("which", x.missing(0, 0, n, 0), one[3]);
        }
        int[][] none = {{300, 200}, {100, 100}, {100, 201}, {99, 200}, {MIN, MAX}};
        for (int[] one : none) {
            Due.items(x, 0, 2, one[0], one[1]);
            due.is("how many of none", x.missing(0, 0, 2, -1), 0);
            due.is("which of none", x.missing(0, 0, 2, 0), Due.NONE);
        }
        Due.items(x, 0, 2, 100, 200, 300, 300);
        due.is("more than the SOUND", x.missing(0, 0, 4, -1), 0);
        due.is("from its beginning on", x.missing(0, 0, 3, -1), 1);
    }

    private static void leastFirst() {
        due.says("how many (i = -1), the i-th, the least first");
        WindHarp x = Due.harp("tree 10 1 0 0; tree 10 9 4 0; tree 10 1 0 0; tree 10 2 0 0; tree 10 1 0 0; wind 0 20 1;");
        Due.items(x, 0, 2, 100, 100);
        due.is("how many", x.missing(0, 0, 2, -1), 3);
        int[] sets = {0b01001, 0b01100, 0b11000, Due.NONE};
        for (int i = 0; i < 4; i++) {
            due.is("number " + i, x.missing(0, 0, 2, i), sets[i]);
        }
        Due.items(x, 0, 2, 100, 200);
        due.is("how many", x.missing(0, 0, 2, -1), 2);
        due.is("number 0", x.missing(0, 0, 2, 0), 0b10001);
        due.is("number 1", x.missing(0, 0, 2, 1), 0b10100);
    }

    private static void nothingHeard() {
        due.says("21: n TONES (0 to 12): 0");
        WindHarp x = threeTones();
        x.row(0, 0, 0);
        due.is("all are missing", x.missing(0, 0, 0, -1), 1);
        due.is("all are missing", x.missing(0, 0, 0, 0), 0b111);
        due.is("no second set", x.missing(0, 0, 0, 1), Due.NONE);
        due.is("none SOUNDS", x.missing(1, 0, 0, -1), 1);
        due.is("none SOUNDS", x.missing(1, 0, 0, 0), 0);
        due.is("none SOUNDS", x.missing(1, 0, 0, 1), Due.NONE);
    }

    private static void twelveMissing() {
        due.says("21: n TONES (0 to 12): 12");
        WindHarp x = Due.harp("tree 10 1 0 0;".repeat(12) + "wind 0 20 1;");
        x.row(0, 2, 13);
        for (int i = 0; i < 13; i++) {
            x.set(0, i, 100);
        }
        int[] ways = {1, 12, 66, 220, 495, 792, 924, 792, 495, 220, 66, 12, 1};
        for (int n = 0; n < 13; n++) {
            due.is("how many of " + n, x.missing(0, 0, n, -1), ways[n]);
            due.is("the first of " + n, x.missing(0, 0, n, 0), (1 << 12 - n) - 1);
            due.is("the last of " + n, x.missing(0, 0, n, ways[n] - 1), (1 << 12 - n) - 1 << n);
            due.is("behind the last of " + n, x.missing(0, 0, n, ways[n]), Due.NONE);
        }
    }

    private static void missingNone() {
        due.says("21: NONE: not so many");
        WindHarp x = threeTones();
        Due.items(x, 0, 2, 100);
        due.is("number 0", x.missing(0, 0, 1, 0), 0b110);
        due.is("number 1", x.missing(0, 0, 1, 1), Due.NONE);
        due.is("status()", x.status(), 0);
        due.is("number MAX", x.missing(0, 0, 1, MAX), Due.NONE);
    }

    private static void missingBad() {
        due.says("21: BAD: WIND, ROW, n, i below -1 (ahead of NULL, PLACE)");
        for (int wind : NO_WINDS) {
            Twins.unchanged(due, "WIND " + wind, x -> x.missing(wind, 0, 1, -1), Due.BAD);
            Twins.unchanged(due, "WIND " + wind + ", NULL", x -> x.missing(wind, 7, 1, -1), Due.BAD);
        }
        for (int row : NO_ROWS) {
            Twins.unchanged(due, "ROW " + row, x -> x.missing(0, row, 1, -1), Due.BAD);
        }
        for (int n : new int[] {MIN, -1, 13, MAX}) {
            Twins.unchanged(due, "n " + n, x -> x.missing(0, 0, n, -1), Due.BAD);
            Twins.unchanged(due, "n " + n + ", NULL", x -> x.missing(0, 7, n, -1), Due.BAD);
        }
        for (int i : new int[] {MIN, -2}) {
            Twins.unchanged(due, "i " + i, x -> x.missing(0, 0, 1, i), Due.BAD);
            Twins.unchanged(due, "i " + i + ", PLACE", x -> x.missing(0, 0, 12, i), Due.BAD);
        }
    }

    private static void missingNull() {
        due.says("21: NULL, ahead of PLACE");
        Twins.unchanged(due, "how many", x -> x.missing(0, 7, 1, -1), Due.NULL);
        Twins.unchanged(due, "of none", x -> x.missing(0, 7, 0, 0), Due.NULL);
        Twins.unchanged(due, "of 12", x -> x.missing(0, 7, 12, MAX), Due.NULL);
    }

    private static void missingPlace() {
        due.says("21: PLACE");
        Twins.unchanged(due, "n 4 of 3", x -> x.missing(0, 0, 4, -1), Due.PLACE);
        Twins.unchanged(due, "n 12 of 3", x -> x.missing(0, 0, 12, 0), Due.PLACE);
        Twins.unchanged(due, "n 1 of 0", x -> x.missing(0, 2, 1, -1), Due.PLACE);
        WindHarp x = threeTones();
        x.row(0, 0, 12);
        due.is("n 12 of 12", x.missing(0, 0, 12, -1), 0);
        due.is("status()", x.status(), 0);
    }
}
