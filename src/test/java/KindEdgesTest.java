/** Promises 24 to 27, edge by edge: a method for each sentence of the document that names one. */
public final class KindEdgesTest {
    private static final Due due = new Due("KindEdgesTest");
    private static final int MIN = Integer.MIN_VALUE, MAX = Integer.MAX_VALUE;
    private static final int MUTE = 1, ICED = 2, SINGING = 3, BUZZING = 4, FALLEN = 5;
    private static final int[] NO_TREES = {MIN, -1, 4, 12, MAX};
    private static final int[] NO_WINDS = {MIN, -1, 2, 6, MAX};

    public static void main(String[] args) {
        toldAsFallenElseIced();
        toldAsBuzzing();
        muteBySideOrStrength();
        kindBad();
        asEach();
        asKind();
        asBad();
        askedByKind();
        askedAtTheEdges();
        askBad();
        traceIsEmptyAhead();
        traceStaysWhereRefused();
        traceNone();
        traceOfANewObject();
        due.end();
    }

    private static void kinds(String what, WindHarp x, int wind, int... kinds) {
        for (int tree = 0; tree < kinds.length; tree++) {
            due.is(what + ": kind(" + tree + ", " + wind + ")", x.kind(tree, wind), kinds[tree]);
        }
    }

    private static void toldAsFallenElseIced() {
        due.says("It is told as FALLEN, else ICED, else MUTE");
        WindHarp x = Due.harp("tree 10 1 0 0; tree 10 1 0 0; tree 10 1 0 0; tree 10 1 0 0; wind 0 20 1; wind 4 20 1;");
        Due.orders(x, "ice 1; fell 2; ice 3; fell 3;");
        kinds("where the first sings", x, 0, SINGING, ICED, FALLEN, FALLEN);
        kinds("where none would", x, 1, MUTE, ICED, FALLEN, FALLEN);
        Due.orders(x, "thaw 1; thaw 3;");
        kinds("thawed", x, 0, SINGING, SINGING, FALLEN, FALLEN);
        x.undo();
        x.undo();
        x.undo();
        kinds("one stands again", x, 0, SINGING, ICED, FALLEN, ICED);
    }

    private static void toldAsBuzzing() {
        due.says("BUZZING, else SINGING");
        WindHarp x = Due.harp("tree 50 5 0 0; tree 50 5 0 0; wind 0 20 1;");
        kinds("0 apart", x, 0, SINGING, SINGING);
        Due.wood(x, "tree 50 5 0 0; tree 99 10 0 0; wind 0 20 1;");
        kinds("1 apart", x, 0, BUZZING, BUZZING);
        Due.wood(x, "tree 50 5 0 0; tree 97 10 0 0; wind 0 20 1;");
        kinds("3 apart", x, 0, BUZZING, BUZZING);
        Due.wood(x, "tree 50 5 0 0; tree 48 5 0 0; wind 0 20 1;");
        kinds("4 apart", x, 0, SINGING, SINGING);
        Due.wood(x, "tree 50 5 0 0; tree 99 10 4 0; tree 97 10 2 0; wind 0 20 1; wind 3 20 1;");
        kinds("alone in its wind", x, 0, SINGING, MUTE, MUTE);
        kinds("another wind", x, 1, MUTE, BUZZING, BUZZING);
        Due.wood(x, "tree 99 10 0 0;" + "tree 10 10 0 0;".repeat(10) + "tree 98 10 0 0; wind 0 20 1;");
        kinds("the first, the twelfth", x, 0, BUZZING, SINGING, SINGING, SINGING, SINGING, SINGING, SINGING, SINGING, SINGING,
            SINGING, SINGING, BUZZING);
    }

    private static void muteBySideOrStrength() {
        due.says("1 MUTE, a TREE: it does not SOUND");
        WindHarp x = Due.harp("tree 10 6 0 0; tree 10 8 0 0; tree 10 6 7 0; tree 10 6 6 0; wind 0 3 1;");
        kinds("STRENGTH 3", x, 0, SINGING, MUTE, SINGING, MUTE);
    }

    private static void kindBad() {
        due.says("24: BAD");
        for (int tree : NO_TREES) {
            Twins.unchanged(due, "kind(" + tree + ", 0)", x -> x.kind(tree, 0), Due.BAD);
        }
        for (int wind : NO_WINDS) {
            Twins.unchanged(due, "kind(0, " + wind + ")", x -> x.kind(0, wind), Due.BAD);
        }
        due.is("no WOOD", new WindHarp().kind(0, 0), Due.BAD);
    }

    /** Tree 0 SINGING, 1 and 2 BUZZING, 3 MUTE, 4 ICED, 5 FALLEN. */
    private static WindHarp ofEachKind() {
        WindHarp x = Due.harp("tree 11 1 0 0; tree 30 3 0 0; tree 29 3 7 0; tree 13 2 4 0; tree 14 2 0 0;"
            + "tree 15 2 1 0; wind 0 9 5;");
        Due.orders(x, "ice 4; fell 5;");
        return x;
    }

    private static void asEach() {
        due.says("25: A TREE is taken as one of a KIND (0 .. 5): the TREE's number");
        WindHarp x = ofEachKind();
        int[][] are = {{0, 0}, {0, 3}, {1, 0}, {1, 3}, {1, 4}, {3, 0}, {3, 1}, {4, 0}, {4, 1}, {4, 2}, {5, 0}, {5, 1}, {5, 5}};
        for (int[] one : are) {
            due.is("as(" + one[0] + ", 0, " + one[1] + ")", x.as(one[0], 0, one[1]), one[0]);
            due.is("status()", x.status(), 0);
        }
        WindHarp y = Due.harp("tree 10 1 0 0;".repeat(12) + "wind 0 20 1;");
        due.is("as(11, 0, 3)", y.as(11, 0, 3), 11);
    }

    private static void asKind() {
        due.says("25: KIND (a TREE that is not that)");
        WindHarp x = ofEachKind();
        int[][] areNot = {{0, 1}, {0, 2}, {0, 4}, {0, 5}, {1, 1}, {1, 2}, {1, 5}, {3, 2}, {3, 3}, {3, 4}, {3, 5}, {4, 3}, {4, 4},
            {4, 5}, {5, 2}, {5, 3}, {5, 4}};
        for (int[] one : areNot) {
            due.is("as(" + one[0] + ", 0, " + one[1] + ")", x.as(one[0], 0, one[1]), Due.KIND);
            due.is("status()", x.status(), 3);
        }
        due.is("ICED with FELLED is FALLEN alone", Due.orders(x, "fell 4;"), 3);
        due.is("as(4, 0, 2)", x.as(4, 0, 2), Due.KIND);
        due.is("as(4, 0, 5)", x.as(4, 0, 5), 4);
        Twins.unchanged(due, "as(0, 0, 1)", y -> y.as(0, 0, 1), Due.KIND);
    }

    private static void asBad() {
        due.says("25: BAD (ahead of KIND)");
        for (int tree : NO_TREES) {
            Twins.unchanged(due, "as(" + tree + ", 0, 0)", x -> x.as(tree, 0, 0), Due.BAD);
        }
        for (int wind : NO_WINDS) {
            Twins.unchanged(due, "as(0, " + wind + ", 0)", x -> x.as(0, wind, 0), Due.BAD);
            Twins.unchanged(due, "as(0, " + wind + ", 5)", x -> x.as(0, wind, 5), Due.BAD);
        }
        for (int kind : new int[] {MIN, -1, 6, MAX}) {
            Twins.unchanged(due, "as(0, 0, " + kind + ")", x -> x.as(0, 0, kind), Due.BAD);
        }
        due.is("no WOOD", new WindHarp().as(0, 0, 0), Due.BAD);
    }

    private static void isAsked(WindHarp x, int tree, int what, int answer, int... bodies) {
        due.is("ask(" + tree + ", 0, " + what + ")", x.ask(tree, 0, what), answer);
        for (int i = 0; i < 17; i++) {
            due.is("trace(" + i + ") of ask(" + tree + ", 0, " + what + ")", x.trace(i), i < bodies.length ? bodies[i] : Due.NONE);
        }
    }

    private static void askedByKind() {
        due.says("Of an ask the BODY told for the KIND begins, else that of the nearest KIND that it is, too");
        WindHarp x = ofEachKind();
        isAsked(x, 0, 0, 11 + 0 + 90, 11, 10, 21, 20);
        isAsked(x, 0, 1, 0 + 90, 21, 20);
        isAsked(x, 1, 0, -(30 + 1 + 100), 12, 11, 10, 21, 20);
        isAsked(x, 1, 1, 1 + 100, 21, 20);
        isAsked(x, 3, 0, 13 - 1000, 13, 10);
        isAsked(x, 3, 1, -3, 23, 20);
        isAsked(x, 4, 0, 14 - 1000, 13, 10);
        isAsked(x, 4, 1, -4 + 14 - 1000, 22, 23, 20, 13, 10);
        isAsked(x, 5, 0, 2 * (15 - 1000), 14, 13, 10);
        isAsked(x, 5, 1, -5 - 100, 24, 23, 20);
    }

    private static void askedAtTheEdges() {
        due.says("asks of the first TREE, the twelfth, the shortest, the longest, wet");
        WindHarp x = Due.harp("tree 10 20 0 0;".repeat(11) + "tree 10 1 0 0; wind 0 20 1;");
        Due.orders(x, "let 11 89;".repeat(12));
        isAsked(x, 0, 0, 10 + 0 + 2000, 11, 10, 21, 20);
        isAsked(x, 11, 0, 999 + 11 + 1, 11, 10, 21, 20);
        Due.orders(x, "wet;");
        isAsked(x, 0, 0, 10 + 0 + 1900, 11, 10, 21, 20);
        isAsked(x, 11, 1, 11 + 1, 21, 20);
        Due.orders(x, "ice 0; fell 11;");
        isAsked(x, 0, 1, 0 + 10 - 1000, 22, 23, 20, 13, 10);
        isAsked(x, 11, 0, 2 * (999 - 1000), 14, 13, 10);
        isAsked(x, 11, 1, -111, 24, 23, 20);
    }

    private static void askBad() {
        due.says("26: An ASK (0, 1) of a TREE. BAD");
        for (int tree : NO_TREES) {
            Twins.unchanged(due, "ask(" + tree + ", 0, 0)", x -> x.ask(tree, 0, 0), Due.BAD);
        }
        for (int wind : NO_WINDS) {
            Twins.unchanged(due, "ask(0, " + wind + ", 0)", x -> x.ask(0, wind, 0), Due.BAD);
        }
        for (int what : new int[] {MIN, -1, 2, 10, MAX}) {
            Twins.unchanged(due, "ask(0, 0, " + what + ")", x -> x.ask(0, 0, what), Due.BAD);
        }
        due.is("no WOOD", new WindHarp().ask(0, 0, 0), Due.BAD);
    }

    private static void traceIsEmptyAhead() {
        due.says("26: THE TRACE is empty ahead of it");
        WindHarp x = ofEachKind();
        isAsked(x, 1, 0, -131, 12, 11, 10, 21, 20);
        isAsked(x, 0, 1, 90, 21, 20);
        for (int i = 0; i < 20; i++) {
            x.ask(1, 0, 0);
        }
        isAsked(x, 1, 0, -131, 12, 11, 10, 21, 20);
    }

    private static void traceStaysWhereRefused() {
        due.says("26: (where that is refused it stays)");
        WindHarp x = ofEachKind();
        x.ask(4, 0, 1);
        due.is("ask(6, 0, 0)", x.ask(6, 0, 0), Due.BAD);
        due.is("ask(0, 1, 0)", x.ask(0, 1, 0), Due.BAD);
        due.is("ask(0, 0, 2)", x.ask(0, 0, 2), Due.BAD);
        x.kind(0, 0);
        x.as(0, 0, 1);
        x.buzz(0);
        Due.wood(x, "tree 10 1 0 0;");
        int[] bodies = {22, 23, 20, 13, 10, Due.NONE};
        for (int i = 0; i < 6; i++) {
            due.is("trace(" + i + ")", x.trace(i), bodies[i]);
        }
    }

    private static void traceNone() {
        due.says("27: Number i of THE TRACE; NONE");
        WindHarp x = ofEachKind();
        x.ask(3, 0, 1);
        int[][] told = {{0, 23}, {1, 20}, {2, Due.NONE}, {15, Due.NONE}, {16, Due.NONE}, {17, Due.NONE}, {-1, Due.NONE},
            {MIN, Due.NONE}, {MAX, Due.NONE}};
        for (int[] one : told) {
            due.is("trace(" + one[0] + ")", x.trace(one[0]), one[1]);
        }
        Twins.unchanged(due, "trace(99)", y -> y.trace(99), Due.NONE);
    }

    private static void traceOfANewObject() {
        due.says("27: NONE: nothing was asked");
        WindHarp x = new WindHarp();
        due.is("trace(0)", x.trace(0), Due.NONE);
        x.ask(0, 0, 0);
        due.is("trace(0) behind BAD", x.trace(0), Due.NONE);
    }
}
