/** Promises 10 to 13, 22, 23, edge by edge: a method for each sentence of the document that names one. */
public final class WoodEdgesTest {
    private static final Due due = new Due("WoodEdgesTest");
    private static final int MIN = Integer.MIN_VALUE, MAX = Integer.MAX_VALUE;

    public static void main(String[] args) {
        tenAtLeast();
        at999Most();
        doneAlreadySo();
        sixtyUndone();
        latestFirst();
        asMuchAsItTookOff();
        stillWithin999();
        undoState();
        yearsAtMost999();
        yearsWithoutIce();
        goBad();
        goState();
        goSixty();
        treeBad();
        treeOfEach();
        cutTowardsZero();
        wetTones();
        strengthByPull();
        sideBySide();
        silent();
        soundNone();
        soundBad();
        imageBad();
        imageState();
        imageAsItIs();
        imageKeepsAllDone();
        imageKeepsEachDone();
        restoreBad();
        restoreState();
        restoreAgain();
        due.end();
    }

    private static void tenAtLeast() {
        due.says("cut: LENGTH N less (10 at least)");
        int[][] told = {{99, 88, 11}, {99, 89, 10}, {98, 89, 10}, {12, 1, 11}, {11, 1, 10}, {11, 2, 10}, {10, 1, 10}, {10, 89, 10}};
        for (int[] one : told) {
            WindHarp x = Due.harp("tree " + one[0] + " 1 0 0;");
            due.is("cut", Due.orders(x, "cut 0 " + one[1] + ";"), 1);
            due.is(one[0] + " cut by " + one[1], x.tree(0, 0), one[2]);
        }
    }

    /** A wire of 10 + 11 * 89 = 989. */
    private static WindHarp longWire(int grows) {
        WindHarp x = Due.harp("tree 10 20 0 " + grows + "; wind 0 20 1; tune 20;");
        Due.orders(x, "let 0 89;".repeat(11));
        due.is("a long wire", x.tree(0, 0), 989);
        return x;
    }

    private static void at999Most() {
        due.says("let: N more (999 at most)");
        int[][] told = {{9, 998}, {10, 999}, {11, 999}, {89, 999}};
        for (int[] one : told) {
            WindHarp x = longWire(0);
            due.is("let", Due.orders(x, "let 0 " + one[0] + ";"), 12);
            due.is("989 let by " + one[0], x.tree(0, 0), one[1]);
        }
        WindHarp x = longWire(0);
        Due.orders(x, "let 0 10; let 0 1;");
        due.is("999 let by 1", x.tree(0, 0), 999);
        due.is("undo()", x.undo(), 12);
        due.is("it gave none", x.tree(0, 0), 999);
        due.is("undo()", x.undo(), 11);
        due.is("it gave 10", x.tree(0, 0), 989);
    }

    private static void doneAlreadySo() {
        due.says("ice, thaw, fell, wet, dry: so it is; each is DONE, each can be undone");
        WindHarp x = Due.harp("tree 10 1 3 0;");
        due.is("so it was", Due.orders(x, "thaw 0; dry; turn 0 3; cut 0 5;"), 4);
        for (int left = 3; left >= 0; left--) {
            due.is("undo()", x.undo(), left);
            int[] tree = {10, 1, 3, 0, 0, 0, 100};
            for (int what = 0; what < 7; what++) {
                due.is("tree(0, " + what + ")", x.tree(0, what), tree[what]);
            }
            due.is("count(5)", x.count(5), 0);
        }
        Due.orders(x, "ice 0; ice 0; fell 0; fell 0; wet; wet;");
        int[][] behind = {{1, 1, 1}, {0, 1, 1}, {0, 1, 1}, {0, 0, 1}, {0, 0, 1}, {0, 0, 0}};
        for (int[] one : behind) {
            x.undo();
            due.is("wet", x.count(5), one[0]);
            due.is("FELLED", x.tree(0, 5), one[1]);
            due.is("ICE", x.tree(0, 4), one[2]);
        }
    }

    private static void sixtyUndone() {
        due.says("DONE: 60 at most; each can be undone, the latest first");
        WindHarp x = Due.harp("tree 10 1 0 0; tree 10 1 7 0;");
        for (int i = 0; i < 10; i++) {
            Due.orders(x, "let 0 1; turn 1 " + i % 8 + "; wet; let 0 2; dry; ice 1;");
        }
        due.is("count(6)", x.count(6), 60);
        due.is("LENGTH", x.tree(0, 0), 40);
        for (int left = 59; left >= 0; left--) {
            due.is("undo()", x.undo(), left);
            int rounds = left / 6;
            int rest = left % 6;
            due.is("LENGTH behind " + left, x.tree(0, 0), 10 + 3 * rounds + (rest > 3 ? 3 : rest > 0 ? 1 : 0));
            int side = rest > 1 ? rounds % 8 : rounds > 0 ? (rounds - 1) % 8 : 7;
            due.is("SIDE behind " + left, x.tree(1, 2), side);
            due.is("wet behind " + left, x.count(5), rest == 3 || rest == 4 ? 1 : 0);
            due.is("ICE behind " + left, x.tree(1, 4), rounds > 0 ? 1 : 0);
        }
        due.is("undo()", x.undo(), Due.STATE);
    }

    private static void latestFirst() {
        due.says("each can be undone, the latest first: as ahead of it");
        WindHarp x = Due.harp("tree 20 1 1 0; tree 20 1 2 0;");
        Due.orders(x, "turn 0 5; turn 1 6; turn 0 7; cut 0 4; let 1 4; cut 1 9; fell 1; fell 0; thaw 1;");
        int[][] behind = {
            {16, 15, 7, 6, 1, 1}, {16, 15, 7, 6, 0, 1}, {16, 15, 7, 6, 0, 0}, {16, 24, 7, 6, 0, 0}, {16, 20, 7, 6, 0, 0},
            {20, 20, 7, 6, 0, 0}, {20, 20, 5, 6, 0, 0}, {20, 20, 5, 2, 0, 0}, {20, 20, 1, 2, 0, 0},
        };
        for (int i = 0; i < 9; i++) {
            due.is("undo()", x.undo(), 8 - i);
            int[] now = {x.tree(0, 0), x.tree(1, 0), x.tree(0, 2), x.tree(1, 2), x.tree(0, 5), x.tree(1, 5)};
            due.all("behind undo " + i, now, behind[i]);
        }
    }

    private static void asMuchAsItTookOff() {
        due.says("LENGTH is as much more (or less) as it took off (or gave) then");
        WindHarp x = Due.harp("tree 12 1 0 3;");
        Due.orders(x, "cut 0 89;");
        x.go(10);
        due.is("10 and 30", x.tree(0, 0), 40);
        x.undo();
        due.is("it took 2 off", x.tree(0, 0), 42);
        Due.orders(x, "let 0 8; cut 0 40;");
        x.go(1);
        due.is("10 and 3", x.tree(0, 0), 13);
        x.undo();
        due.is("it took 40 off", x.tree(0, 0), 53);
        x.undo();
        due.is("it gave 8", x.tree(0, 0), 45);
    }

    private static void stillWithin999() {
        due.says("(10 to 999 still)");
        WindHarp x = longWire(5);
        Due.orders(x, "cut 0 89; let 0 4;");
        due.is("904", x.tree(0, 0), 904);
        x.go(18);
        due.is("994", x.tree(0, 0), 994);
        x.undo();
        due.is("990", x.tree(0, 0), 990);
        x.undo();
        due.is("999, not 1079", x.tree(0, 0), 999);
        WindHarp y = longWire(1);
        Due.orders(y, "cut 0 5;");
        y.go(5);
        y.undo();
        due.is("989 and 5", y.tree(0, 0), 994);
        y.go(5);
        due.is("999", y.tree(0, 0), 999);
        for (int i = 0; i < 11; i++) {
            y.undo();
        }
        due.is("eleven times 89 less", y.tree(0, 0), 20);
    }

    private static void undoState() {
        due.says("10: STATE: there is none");
        due.is("no WOOD", new WindHarp().undo(), Due.STATE);
        WindHarp x = Due.harp("tree 20 1 0 0;");
        due.is("none is DONE", x.undo(), Due.STATE);
        Due.orders(x, "cut 0 1;");
        due.is("one", x.undo(), 0);
        due.is("none is left", x.undo(), Due.STATE);
        due.is("LENGTH", x.tree(0, 0), 20);
        due.is("status()", x.status(), 0);
        Due.orders(x, "cut 0 1; ice 0");
        due.is("a FAULT is not DONE", x.undo(), Due.STATE);
        x.go(3);
        due.is("a YEAR is not DONE", x.undo(), Due.STATE);
        due.is("count(4)", x.count(4), 3);
    }

    private static void yearsAtMost999() {
        due.says("A YEAR: each LENGTH becomes more by GROWS (999 at most)");
        int[][] told = {{1, 1, 990}, {1, 10, 999}, {1, 11, 999}, {5, 1, 994}, {5, 2, 999}, {5, 3, 999}, {3, 3, 998}, {3, 4, 999},
            {0, 60, 989}, {5, 60, 999}};
        for (int[] one : told) {
            WindHarp x = longWire(one[0]);
            due.is("go", x.go(one[1]), one[1]);
            due.is("GROWS " + one[0] + ", years " + one[1], x.tree(0, 0), one[2]);
        }
        WindHarp x = longWire(4);
        int[] each = {993, 997, 999, 999};
        for (int year = 0; year < 4; year++) {
            due.is("go(1)", x.go(1), year + 1);
            due.is("LENGTH", x.tree(0, 0), each[year]);
        }
    }

    private static void yearsWithoutIce() {
        due.says("A YEAR: but where ICE is, or FELLED");
        WindHarp x = Due.harp("tree 20 1 0 5; tree 20 1 0 5; tree 20 1 0 5; tree 20 1 0 5; tree 20 1 0 0;");
        Due.orders(x, "ice 1; fell 2; ice 3; fell 3;");
        x.go(1);
        int[] first = {25, 20, 20, 20, 20};
        for (int tree = 0; tree < 5; tree++) {
            due.is("LENGTH of " + tree, x.tree(tree, 0), first[tree]);
        }
        Due.orders(x, "thaw 1; thaw 3;");
        x.go(1);
        int[] second = {30, 25, 20, 20, 20};
        for (int tree = 0; tree < 5; tree++) {
            due.is("LENGTH of " + tree, x.tree(tree, 0), second[tree]);
        }
    }

    private static void goBad() {
        due.says("11: n YEARS (1 to 60); BAD");
        for (int n : new int[] {MIN, -60, -1, 0, 61, 120, MAX}) {
            Twins.unchanged(due, "go(" + n + ")", x -> x.go(n), Due.BAD);
        }
    }

    private static void goState() {
        due.says("11: STATE: no WOOD (ahead of BAD)");
        WindHarp x = new WindHarp();
        for (int n : new int[] {MIN, -1, 0, 1, 60, 61, MAX}) {
            due.is("go(" + n + ")", x.go(n), Due.STATE);
        }
        due.is("count(4)", x.count(4), 0);
    }

    private static void goSixty() {
        due.says("11: n YEARS (1 to 60): years gone");
        WindHarp x = Due.harp("tree 10 1 0 1; tree 10 1 0 5;");
        due.is("go(1)", x.go(1), 1);
        due.is("go(60)", x.go(60), 61);
        due.is("go(59)", x.go(59), 120);
        due.is("go(60)", x.go(60), 180);
        due.is("count(4)", x.count(4), 180);
        due.is("GROWS 1", x.tree(0, 0), 190);
        due.is("GROWS 5", x.tree(1, 0), 910);
    }

    private static void treeBad() {
        due.says("12: BAD");
        for (int no : new int[] {MIN, -1, 4, 12, MAX}) {
            Twins.unchanged(due, "tree(" + no + ", 0)", x -> x.tree(no, 0), Due.BAD);
        }
        for (int no : new int[] {MIN, -1, 7, MAX}) {
            Twins.unchanged(due, "tree(0, " + no + ")", x -> x.tree(0, no), Due.BAD);
        }
        due.is("no WOOD", new WindHarp().tree(0, 0), Due.BAD);
        WindHarp x = Due.harp("tree 10 1 0 0;".repeat(12));
        due.is("tree(11, 6)", x.tree(11, 6), 100);
        due.is("tree(12, 6)", x.tree(12, 6), Due.BAD);
        Due.wood(x, "tree 10 1 0 0;");
        due.is("a TREE of the wood before", x.tree(1, 0), Due.BAD);
    }

    private static void treeOfEach() {
        due.says("12: whether ICE (1, 0), whether FELLED");
        WindHarp x = Due.harp("tree 10 1 0 0; tree 99 20 7 5;");
        int[][] all = {{10, 1, 0, 0, 0, 0, 100}, {99, 20, 7, 5, 0, 0, 202}};
        for (int tree = 0; tree < 2; tree++) {
            for (int what = 0; what < 7; what++) {
                due.is("tree(" + tree + ", " + what + ")", x.tree(tree, what), all[tree][what]);
            }
        }
        Due.orders(x, "ice 0; fell 1;");
        due.is("ICE of 0", x.tree(0, 4), 1);
        due.is("FELLED of 0", x.tree(0, 5), 0);
        due.is("ICE of 1", x.tree(1, 4), 0);
        due.is("FELLED of 1", x.tree(1, 5), 1);
        due.is("a TONE though FELLED", x.tree(1, 6), 202);
    }

    private static void cutTowardsZero() {
        due.says("TONE: 1000 times PULL by LENGTH; all that is divided is cut towards 0");
        int[][] told = {{10, 1, 100}, {10, 20, 2000}, {11, 1, 90}, {99, 1, 10}, {99, 20, 202}, {16, 1, 62}, {34, 1, 29}, {33, 1, 30},
            {50, 19, 380}, {51, 19, 372}};
        for (int[] one : told) {
            WindHarp x = Due.harp("tree " + one[0] + " " + one[1] + " 0 0;");
            due.is("PULL " + one[1] + " by " + one[0], x.tree(0, 6), one[2]);
        }
        WindHarp x = longWire(1);
        due.is("20000 by 989", x.tree(0, 6), 20);
        x.go(10);
        due.is("20000 by 999", x.tree(0, 6), 20);
        Due.wood(x, "tree 10 1 0 5;");
        for (int year = 0; year < 198; year++) {
            x.go(1);
        }
        due.is("1000 by 999", x.tree(0, 6), 1);
    }

    private static void wetTones() {
        due.says("TONE, wet: less 5 times (that by 100)");
        int[][] told = {{10, 1, 95}, {11, 1, 90}, {10, 2, 190}, {51, 10, 191}, {67, 20, 288}, {10, 20, 1900}, {99, 10, 96},
            {50, 20, 380}, {99, 1, 10}};
        for (int[] one : told) {
            WindHarp x = Due.harp("tree " + one[0] + " " + one[1] + " 0 0; wind 0 20 1;");
            int dry = x.tree(0, 6);
            Due.orders(x, "wet;");
            due.is("PULL " + one[1] + " by " + one[0], x.tree(0, 6), one[2]);
            due.is("its SOUND", x.sound(0, 0), one[2]);
            Due.orders(x, "dry;");
            due.is("dry again", x.tree(0, 6), dry);
        }
        WindHarp x = Due.harp("tree 99 20 0 0;");
        Due.orders(x, "wet; let 0 89; let 0 12;");
        due.is("100 is 95", x.tree(0, 6), 95);
        Due.orders(x, "let 0 1;");
        due.is("99 is 99", x.tree(0, 6), 99);
    }

    private static void strengthByPull() {
        due.says("it SOUNDS, if STRENGTH is PULL by 2 or more");
        for (int pull = 1; pull <= 20; pull++) {
            int least = Math.max(1, pull / 2);
            WindHarp x = Due.harp("tree 99 " + pull + " 0 0; wind 0 " + least + " 1; wind 0 " + Math.max(1, least - 1) + " 1;"
                + "wind 0 20 1;");
            int tone = 1000 * pull / 99;
            due.is("STRENGTH " + least + ", PULL " + pull, x.sound(0, 0), tone);
            due.is("STRENGTH " + (least - 1) + ", PULL " + pull, x.sound(1, 0), least > 1 ? Due.NONE : tone);
            due.is("STRENGTH 20, PULL " + pull, x.sound(2, 0), tone);
        }
    }

    private static void sideBySide() {
        due.says("its SIDE is the WIND's or one of both next to that (7 and 0 are next to one another)");
        String[] near = {"11000001", "11100000", "01110000", "00111000", "00011100", "00001110", "00000111", "10000011"};
        for (int from = 0; from < 8; from++) {
            WindHarp x = Due.harp("tree 10 1 0 0; wind " + from + " 20 1;");
            for (int side = 0; side < 8; side++) {
                Due.orders(x, "turn 0 " + side + ";");
                due.is("WIND " + from + ", SIDE " + side, x.sound(0, 0), near[from].charAt(side) == '1' ? 100 : Due.NONE);
            }
        }
    }

    private static void silent() {
        due.says("it SOUNDS, if it is not FELLED, has no ICE");
        WindHarp x = Due.harp("tree 10 1 0 0; tree 10 2 0 0; tree 10 3 0 0; tree 10 4 0 0; wind 0 20 1;");
        due.all("all", Due.sound(x, 0), 100, 200, 300, 400);
        Due.orders(x, "ice 0; fell 2; ice 3; fell 3;");
        due.all("one of four", Due.sound(x, 0), 200);
        Due.orders(x, "thaw 0; thaw 2; thaw 3;");
        due.all("thawed", Due.sound(x, 0), 100, 200);
        Due.orders(x, "fell 0; ice 1;");
        due.all("none", Due.sound(x, 0));
    }

    private static void soundNone() {
        due.says("13: TONE k of the SOUND in a WIND; NONE: not so many");
        WindHarp x = Due.harp("tree 10 1 0 0;".repeat(12) + "wind 0 20 1; wind 4 20 1;");
        due.is("sound(0, 0)", x.sound(0, 0), 100);
        due.is("sound(0, 11)", x.sound(0, 11), 100);
        due.is("sound(0, 12)", x.sound(0, 12), Due.NONE);
        due.is("sound(0, MAX)", x.sound(0, MAX), Due.NONE);
        due.is("sound(1, 0)", x.sound(1, 0), Due.NONE);
        Due.orders(x, "fell 5;");
        due.is("sound(0, 10)", x.sound(0, 10), 100);
        due.is("sound(0, 11)", x.sound(0, 11), Due.NONE);
    }

    private static void soundBad() {
        due.says("13: BAD: k below 0, too");
        for (int wind : new int[] {MIN, -1, 2, 6, MAX}) {
            Twins.unchanged(due, "sound(" + wind + ", 0)", x -> x.sound(wind, 0), Due.BAD);
        }
        for (int k : new int[] {MIN, -1}) {
            Twins.unchanged(due, "sound(0, " + k + ")", x -> x.sound(0, k), Due.BAD);
        }
        WindHarp x = Due.harp("tree 10 1 0 0;");
        due.is("no WINDS", x.sound(0, 0), Due.BAD);
        due.is("no WOOD", new WindHarp().sound(0, 0), Due.BAD);
    }

    private static void imageBad() {
        due.says("22: An IMAGE (0, 1); BAD");
        for (int k : new int[] {MIN, -1, 2, MAX}) {
            Twins.unchanged(due, "image(" + k + ")", x -> x.image(k), Due.BAD);
            due.is("BAD ahead of STATE", new WindHarp().image(k), Due.BAD);
        }
    }

    private static void imageState() {
        due.says("22: STATE: no WOOD");
        WindHarp x = new WindHarp();
        for (int k = 0; k < 2; k++) {
            due.is("image(" + k + ")", x.image(k), Due.STATE);
            due.is("none was kept", x.restore(k), Due.STATE);
        }
        Due.wood(x, "tree 10 1 0 9;");
        due.is("a FAULT is no WOOD", x.image(0), Due.STATE);
    }

    private static void imageAsItIs() {
        due.says("22: An IMAGE is kept of the WOOD, as it is");
        WindHarp x = Due.harp("tree 10 1 0 1; wind 0 20 7; tune 1;");
        due.is("image(0)", x.image(0), 1);
        x.go(1);
        due.is("image(1)", x.image(1), 1);
        Due.orders(x, "wet; ice 0; fell 0; turn 0 4; cut 0 1;");
        x.go(60);
        x.restore(1);
        due.is("a year", x.count(4), 1);
        int[] tree = {11, 1, 0, 1, 0, 0, 90};
        for (int what = 0; what < 7; what++) {
            due.is("tree(0, " + what + ")", x.tree(0, what), tree[what]);
        }
        due.is("dry", x.count(5), 0);
        due.is("nothing DONE", x.count(6), 0);
        x.restore(0);
        due.is("no year", x.count(4), 0);
        due.is("LENGTH", x.tree(0, 0), 10);
        x.go(2);
        due.is("image(0) anew", x.image(0), 1);
        x.go(2);
        x.restore(0);
        due.is("LENGTH", x.tree(0, 0), 12);
        x.restore(1);
        due.is("the other stays", x.tree(0, 0), 11);
    }

    private static void imageKeepsAllDone() {
        due.says("22: and all that is DONE");
        WindHarp x = Due.harp("tree 10 1 0 0;");
        for (int i = 0; i < 5; i++) {
            Due.orders(x, "let 0 1;".repeat(12));
        }
        x.image(0);
        for (int i = 0; i < 60; i++) {
            x.undo();
        }
        due.is("LENGTH", x.tree(0, 0), 10);
        x.image(1);
        Due.orders(x, "cut 0 1; cut 0 1;");
        due.is("restore(0)", x.restore(0), 1);
        due.is("count(6)", x.count(6), 60);
        due.is("full", Due.orders(x, "wet;"), Due.FULL);
        for (int left = 59; left >= 0; left--) {
            due.is("undo()", x.undo(), left);
            due.is("LENGTH", x.tree(0, 0), 10 + left);
        }
        due.is("restore(1)", x.restore(1), 1);
        due.is("none is DONE", x.undo(), Due.STATE);
    }

    private static void imageKeepsEachDone() {
        due.says("22: and all that is DONE: each with its TREE");
        WindHarp x = Due.harp("tree 20 1 1 0; tree 30 1 2 0;");
        Due.orders(x, "cut 0 4; turn 1 6; ice 0; wet; fell 1; let 1 7;");
        x.image(0);
        for (int i = 0; i < 6; i++) {
            x.undo();
        }
        Due.orders(x, "fell 0; thaw 1; dry; turn 0 3; let 0 9; cut 1 2;");
        x.image(1);
        int[][] first = {{20, 30, 1, 2, 0, 0, 0}, {16, 30, 1, 2, 0, 0, 0}, {16, 30, 1, 6, 0, 0, 0}, {16, 30, 1, 6, 1, 0, 0},
            {16, 30, 1, 6, 1, 0, 1}, {16, 30, 1, 6, 1, 1, 1}};
        int[][] second = {{20, 30, 1, 2, 0, 0, 0}, {20, 30, 1, 2, 0, 0, 0}, {20, 30, 1, 2, 0, 0, 0}, {20, 30, 1, 2, 0, 0, 0},
            {20, 30, 3, 2, 0, 0, 0}, {29, 30, 3, 2, 0, 0, 0}};
        for (int k = 0; k < 2; k++) {
            due.is("restore(" + k + ")", x.restore(k), 1);
            for (int left = 5; left >= 0; left--) {
                due.is("undo()", x.undo(), left);
                int[] now = {x.tree(0, 0), x.tree(1, 0), x.tree(0, 2), x.tree(1, 2), x.tree(0, 4), x.tree(1, 5), x.count(5)};
                due.all("IMAGE " + k + ", " + left + " left", now, k == 0 ? first[left] : second[left]);
            }
        }
    }

    private static void restoreBad() {
        due.says("23: BAD");
        for (int k : new int[] {MIN, -1, 2, MAX}) {
            Twins.unchanged(due, "restore(" + k + ")", x -> x.restore(k), Due.BAD);
            due.is("BAD ahead of STATE", new WindHarp().restore(k), Due.BAD);
        }
    }

    private static void restoreState() {
        due.says("23: STATE: none was kept");
        Twins.unchanged(due, "restore(1)", x -> x.restore(1), Due.STATE);
        WindHarp x = new WindHarp();
        due.is("restore(0)", x.restore(0), Due.STATE);
        Due.wood(x, "tree 10 1 0 0;");
        due.is("restore(0)", x.restore(0), Due.STATE);
        x.image(1);
        due.is("restore(0)", x.restore(0), Due.STATE);
        due.is("restore(1)", x.restore(1), 1);
    }

    private static void restoreAgain() {
        due.says("23: These are as an IMAGE kept them: no more than these");
        WindHarp x = Due.harp("tree 10 1 0 0; wind 0 20 1;");
        x.image(0);
        Due.items(x, 0, 0, 44);
        Due.wood(x, "zither");
        Due.feed(x, "wet;");
        x.as(0, 0, 5);
        x.ask(0, 0, 1);
        for (int i = 0; i < 2; i++) {
            due.is("restore(0)", x.restore(0), 1);
            due.is("fault()", x.fault(), 1);
            due.is("status()", x.status(), 3);
            due.is("the tape", x.count(7), 4);
            due.is("the ROWS", x.count(0), 1);
            due.is("THE TRACE", x.trace(0), 21);
        }
        due.is("item 0", Due.item(x, 0, 0), 44);
        due.is("orders()", x.orders(), 1);
        due.is("restore(0)", x.restore(0), 1);
        due.is("dry", x.count(5), 0);
    }
}
