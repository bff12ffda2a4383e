/** Promises 24 to 27: kinds, asks, and the trace. */
public final class KindsTest {
    private static final Due due = new Due("KindsTest");
    private static final int MUTE = 1, ICED = 2, SINGING = 3, BUZZING = 4, FALLEN = 5;

    public static void main(String[] args) {
        kindsAreTold();
        takenAs();
        asked();
        wetWhenAsked();
        traces();
        refused();
        due.end();
    }

    /** Tree 0 SINGING, 1 and 2 BUZZING, 3 MUTE, 4 ICED, 5 FALLEN, 6 FALLEN with ice. */
    private static WindHarp allKinds() {
        WindHarp x = Due.harp("tree 11 1 0 0; tree 30 3 0 0; tree 29 3 7 0; tree 13 2 4 0; tree 14 2 0 0;"
            + "tree 15 2 1 0; tree 16 2 0 0; wind 0 9 5; wind 4 9 5;");
        Due.orders(x, "ice 4; fell 5; ice 6; fell 6;");
        return x;
    }

    private static void kindsAreTold() {
        WindHarp x = allKinds();
        int[] kinds = {SINGING, BUZZING, BUZZING, MUTE, ICED, FALLEN, FALLEN};
        for (int tree = 0; tree < 7; tree++) {
            due.is("kind(" + tree + ", 0)", x.kind(tree, 0), kinds[tree]);
        }
        int[] others = {MUTE, MUTE, MUTE, SINGING, ICED, FALLEN, FALLEN};
        for (int tree = 0; tree < 7; tree++) {
            due.is("kind(" + tree + ", 1)", x.kind(tree, 1), others[tree]);
        }
        Due.orders(x, "thaw 4; fell 2;");
        due.is("kind(4, 0) thawed", x.kind(4, 0), SINGING);
        due.is("kind(1, 0) alone", x.kind(1, 0), SINGING);
    }

    private static void takenAs() {
        WindHarp x = allKinds();
        boolean[][] is = {
            {true, false, false, true, false, false},
            {true, false, false, true, true, false},
            {true, false, false, true, true, false},
            {true, true, false, false, false, false},
            {true, true, true, false, false, false},
            {true, true, false, false, false, true},
            {true, true, false, false, false, true},
        };
        for (int tree = 0; tree < 7; tree++) {
            for (int kind = 0; kind < 6; kind++) {
                due.is("as(" + tree + ", 0, " + kind + ")", x.as(tree, 0, kind), is[tree][kind] ? tree : Due.KIND);
                due.is("status()", x.status(), is[tree][kind] ? 0 : 3);
            }
        }
    }

    private static void traceIs(String what, WindHarp x, int... bodies) {
        for (int i = 0; i < bodies.length; i++) {
            due.is(what + " trace(" + i + ")", x.trace(i), bodies[i]);
        }
        for (int i = bodies.length; i < 18; i++) {
            due.is(what + " trace(" + i + ")", x.trace(i), Due.NONE);
        }
    }

    private static void asked() {
        WindHarp x = allKinds();
        due.is("SIZE of SINGING", x.ask(0, 0, 0), 11 + 0 + 90);
        traceIs("SIZE of SINGING", x, 11, 10, 21, 20);
        due.is("MARK of SINGING", x.ask(0, 0, 1), 90);
        traceIs("MARK of SINGING", x, 21, 20);
        due.is("SIZE of BUZZING", x.ask(1, 0, 0), -(30 + 1 + 100));
        traceIs("SIZE of BUZZING", x, 12, 11, 10, 21, 20);
        due.is("MARK of BUZZING", x.ask(2, 0, 1), 2 + 103);
        traceIs("MARK of BUZZING", x, 21, 20);
        due.is("SIZE of MUTE", x.ask(3, 0, 0), 13 - 1000);
        traceIs("SIZE of MUTE", x, 13, 10);
        due.is("MARK of MUTE", x.ask(3, 0, 1), -3);
        traceIs("MARK of MUTE", x, 23, 20);
        due.is("SIZE of ICED", x.ask(4, 0, 0), 14 - 1000);
        traceIs("SIZE of ICED", x, 13, 10);
        due.is("MARK of ICED", x.ask(4, 0, 1), -4 + 14 - 1000);
        traceIs("MARK of ICED", x, 22, 23, 20, 13, 10);
        due.is("SIZE of FALLEN", x.ask(5, 0, 0), 2 * (15 - 1000));
        traceIs("SIZE of FALLEN", x, 14, 13, 10);
        due.is("MARK of FALLEN", x.ask(5, 0, 1), -5 - 100);
        traceIs("MARK of FALLEN", x, 24, 23, 20);
        due.is("SIZE of FALLEN with ice", x.ask(6, 1, 0), 2 * (16 - 1000));
        due.is("SIZE of MUTE in another wind", x.ask(0, 1, 0), 11 - 1000);
    }

    private static void wetWhenAsked() {
        WindHarp x = allKinds();
        Due.orders(x, "wet; cut 0 1;");
        due.is("MARK of SINGING, wet", x.ask(0, 0, 1), 95);
        due.is("SIZE of BUZZING, cut", x.ask(0, 0, 0), -(10 + 95));
    }

    private static void traces() {
        WindHarp x = allKinds();
        x.ask(4, 0, 1);
        due.is("ask(7, 0, 0)", x.ask(7, 0, 0), Due.BAD);
        traceIs("behind BAD", x, 22, 23, 20, 13, 10);
        due.is("trace(-1)", x.trace(-1), Due.NONE);
        due.is("trace(min)", x.trace(Integer.MIN_VALUE), Due.NONE);
        due.is("trace(max)", x.trace(Integer.MAX_VALUE), Due.NONE);
        x.kind(0, 0);
        x.as(0, 0, 3);
        x.go(1);
        Due.wood(x, "tree 10 1 0 0; wind 0 9 5;");
        traceIs("behind others", x, 22, 23, 20, 13, 10);
        x.ask(0, 0, 1);
        traceIs("behind another ask", x, 21, 20);
    }

    private static void refused() {
        WindHarp x = allKinds();
        due.is("kind(-1, 0)", x.kind(-1, 0), Due.BAD);
        due.is("kind(7, 0)", x.kind(7, 0), Due.BAD);
        due.is("kind(0, -1)", x.kind(0, -1), Due.BAD);
        due.is("kind(0, 2)", x.kind(0, 2), Due.BAD);
        due.is("as(-1, 0, 0)", x.as(-1, 0, 0), Due.BAD);
        due.is("as(7, 0, 0)", x.as(7, 0, 0), Due.BAD);
        due.is("as(0, -1, 0)", x.as(0, -1, 0), Due.BAD);
        due.is("as(0, 2, 0)", x.as(0, 2, 0), Due.BAD);
        due.is("as(0, 0, -1)", x.as(0, 0, -1), Due.BAD);
        due.is("as(0, 0, 6)", x.as(0, 0, 6), Due.BAD);
        due.is("status()", x.status(), 0);
        due.is("ask(-1, 0, 0)", x.ask(-1, 0, 0), Due.BAD);
        due.is("ask(7, 0, 0)", x.ask(7, 0, 0), Due.BAD);
        due.is("ask(0, -1, 0)", x.ask(0, -1, 0), Due.BAD);
        due.is("ask(0, 2, 0)", x.ask(0, 2, 0), Due.BAD);
        due.is("ask(0, 0, -1)", x.ask(0, 0, -1), Due.BAD);
        due.is("ask(0, 0, 2)", x.ask(0, 0, 2), Due.BAD);
        WindHarp none = new WindHarp();
        due.is("kind without a wood", none.kind(0, 0), Due.BAD);
        due.is("as without a wood", none.as(0, 0, 0), Due.BAD);
        due.is("ask without a wood", none.ask(0, 0, 0), Due.BAD);
    }
}
