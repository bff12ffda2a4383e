/** All promises: every mix of arguments at their edges, and every text one byte off, answered as by the model. */
public final class SweepTest {
    private static final int MIN = Integer.MIN_VALUE, MAX = Integer.MAX_VALUE;
    private static final int CALLS = 512;
    private static final Due due = new Due("SweepTest");

    private static final String SMALL = "tree 12 1 0 0;";
    private static final String MIXED = "tree 30 3 0 1; tree 29 3 1 5; tree 99 20 7 0; tree 10 1 4 3; wind 0 9 20; wind 7 1 99; tune 100 103 0;";
    private static final String LARGE = "tree 10 1 0 0;".repeat(11) + "tree 99 20 0 5;" + "wind 0 20 99;".repeat(6)
        + "tune 100 100 100 100 100 999 999 0 0 0;";
    private static final String[] WOODS = {"", SMALL, SMALL + "wind 0 1 1;", MIXED, LARGE};
    private static final String[] ORDERS = {"", "", "wet; cut 0 89;", "ice 0; fell 2; ice 2; wet; let 1 8;", "fell 5; turn 6 4;"};

    private static final int[] TREES = {MIN, -1, 0, 1, 3, 4, 11, 12, MAX};
    private static final int[] WINDS = {MIN, -1, 0, 1, 2, 5, 6, MAX};
    private static final int[] ROWS = {MIN, -1, 0, 1, 2, 3, 7, 8, MAX};
    private static final int[] PLACES = {MIN, -1, 0, 1, 2, 3, 39, 40, MAX};
    private static final int[] T = {MIN, -1, 0, 1, 99, 100, MAX};
    private static final int[] X = {MIN, -1, 0, 1, 20, 21, MAX};
    private static final int[] FEW = {MIN, -1, 0, 1, 2, 3, 5, 6, 7, 8, MAX};

    private int state;
    private int calls = CALLS;
    private WindHarp x;
    private Model model;

    public static void main(String[] args) {
        for (int state = 0; state < WOODS.length; state++) {
            new SweepTest().all(state);
        }
        new SweepTest().texts();
        due.end();
    }

    /** Every call of the face, in one state of the wood. */
    private void all(int which) {
        state = which;
        rowCalls();
        woodCalls();
        heardCalls();
        foretoldCalls();
        askedCalls();
    }

    /** The model's answer is compared with the class's by each call; a new pair is made where 512 are used up. */
    private void ready() {
        if (calls + 2 > CALLS) {
            x = new WindHarp();
            model = new Model();
            calls = 0;
            if (!WOODS[state].isEmpty()) {
                read(WOODS[state], true);
            }
            if (!ORDERS[state].isEmpty()) {
                read(ORDERS[state], false);
            }
            row(0, 0, 3, 100, 30, 90);
            row(1, 2, 40, 100, MIN + 100, MAX, 101, 100);
            row(2, 1, 0);
        }
        calls += 2;
    }

    private void row(int row, int lane, int n, int... items) {
        is("row", x.row(row, lane, n), model.row(row, lane, n));
        for (int i = 0; i < items.length; i++) {
            is("set", x.set(row, i, items[i]), model.set(row, i, items[i]));
        }
        calls += 1 + items.length;
    }

    private void read(String text, boolean isWood) {
        for (int at = 0; at < text.length(); at += 8) {
            int n = Math.min(8, text.length() - at);
            long w = 0;
            for (int i = 0; i < n; i++) {
                w = w << 8 | text.charAt(at + i);
            }
            is("feed", x.feed(w, n), model.feed(w, n));
            calls++;
        }
        is("read \"" + text + "\"", isWood ? x.wood() : x.orders(), isWood ? model.wood() : model.orders());
        is("fault() of \"" + text + "\"", x.fault(), model.fault());
        calls += 2;
    }

    private void is(String call, int got, int want) {
        due.is(call, got, want);
    }

    private void compare(String call, int got, int want, int... p) {
        if (got != want || x.status() != model.status()) {
            StringBuilder text = new StringBuilder("state " + state + ": " + call);
            for (int one : p) {
                text.append(' ').append(one);
            }
            due.is(text + " status()", x.status(), model.status());
            due.is(text.toString(), got, want);
        } else {
            due.is(call, got, want);
        }
    }

    private void rowCalls() {
        for (int a : ROWS) {
            for (int i : PLACES) {
                for (int v : new int[] {MIN, -32769, -129, -1, 0, 100, 128, 255, 32768, 65535, MAX}) {
                    ready();
                    compare("set", x.set(a, i, v), model.set(a, i, v), a, i, v);
                }
                for (int b : ROWS) {
                    for (int j : new int[] {-1, 0, 1, 3, 40, MAX}) {
                        for (int n : new int[] {MIN, -1, 0, 1, 3, 40, MAX}) {
                            ready();
                            compare("copy", x.copy(a, i, b, j, n), model.copy(a, i, b, j, n), a, i, b, j, n);
                        }
                    }
                }
            }
            for (int lane : new int[] {MIN, -1, 0, 1, 2, 3, MAX}) {
                for (int n : new int[] {MIN, -1, 0, 1, 39, 40, 41, MAX}) {
                    ready();
                    compare("row", x.row(a, lane, n), model.row(a, lane, n), a, lane, n);
                }
            }
            ready();
            compare("drop", x.drop(a), model.drop(a), a);
        }
        for (int what = -1; what < 9; what++) {
            ready();
            compare("count", x.count(what), model.count(what), what);
        }
        calls = CALLS;
    }

    private void woodCalls() {
        for (int n : new int[] {MIN, -1, 0, 1, 7, 8, 9, MAX}) {
            for (int i = 0; i < 60; i++) {
                ready();
                compare("feed", x.feed(-1L, n), model.feed(-1L, n), n);
            }
        }
        for (int tree : TREES) {
            for (int what = -1; what < 8; what++) {
                ready();
                compare("tree", x.tree(tree, what), model.tree(tree, what), tree, what);
            }
        }
        for (int wind : WINDS) {
            for (int k : new int[] {MIN, -1, 0, 1, 2, 3, 10, 11, 12, MAX}) {
                ready();
                compare("sound", x.sound(wind, k), model.sound(wind, k), wind, k);
            }
        }
        for (int k : FEW) {
            ready();
            compare("restore", x.restore(k), model.restore(k), k);
            compare("image", x.image(k), model.image(k), k);
            for (int n : new int[] {MIN, -1, 0, 1, 59, 60, 61, MAX}) {
                ready();
                compare("go", x.go(n), model.go(n), n);
            }
            ready();
            compare("undo", x.undo(), model.undo());
            compare("restore", x.restore(k), model.restore(k), k);
        }
        calls = CALLS;
    }

    private void heardCalls() {
        for (int wind : WINDS) {
            ready();
            compare("buzz", x.buzz(wind), model.buzz(wind), wind);
            for (int t : T) {
                ready();
                compare("slips", x.slips(wind, t), model.slips(wind, t), wind, t);
                for (int slack : X) {
                    ready();
                    compare("tuned", x.tuned(wind, slack, t), model.tuned(wind, slack, t), wind, slack, t);
                }
            }
            for (int row : ROWS) {
                for (int i : PLACES) {
                    for (int n : new int[] {MIN, -1, 0, 1, 3, 5, 20, 21, MAX}) {
                        for (int t : new int[] {-1, 0, 1, 99, 100}) {
                            ready();
                            compare("birds", x.birds(wind, row, i, n, t), model.birds(wind, row, i, n, t), wind, row, i, n, t);
                        }
                    }
                }
                for (int n : new int[] {MIN, -1, 0, 1, 2, 3, 12, 13, MAX}) {
                    for (int i : new int[] {MIN, -2, -1, 0, 1, 2, 11, MAX}) {
                        ready();
                        compare("missing", x.missing(wind, row, n, i), model.missing(wind, row, n, i), wind, row, n, i);
                    }
                }
            }
        }
    }

    private void foretoldCalls() {
        for (int t : T) {
            for (int slack : X) {
                for (int what = -1; what < 3; what++) {
                    ready();
                    compare("plays", x.plays(slack, t, what), model.plays(slack, t, what), slack, t, what);
                }
            }
        }
        for (int p : new int[] {MIN, -1, 0, 1, 2, 20, 21, MAX}) {
            for (int g : new int[] {MIN, -1, 0, 1, 5, 6, MAX}) {
                for (int u : new int[] {MIN, -1, 0, 1, 2, 10, 14, 100, 1000, 2000, 2001, MAX}) {
                    for (int y : new int[] {MIN, -1, 0, 1, 60, 61, MAX}) {
                        ready();
                        compare("hung", x.hung(p, g, u, y), model.hung(p, g, u, y), p, g, u, y);
                    }
                }
            }
        }
        for (int a : WINDS) {
            for (int b : new int[] {-1, 0, 1, 6}) {
                for (int s : new int[] {0, 1, 20, 21}) {
                    for (int slack : new int[] {-1, 0, 2, 20, 21}) {
                        ready();
                        int t = s % 2;
                        compare("cheapest", x.cheapest(a, b, s, slack, t, 2), model.cheapest(a, b, s, slack, t, 2), a, b, s, slack, t, 2);
                    }
                }
            }
            for (int t : T) {
                for (int what = -1; what < 4; what++) {
                    ready();
                    compare("cheapest", x.cheapest(a, 0, 7, 20, t, what), model.cheapest(a, 0, 7, 20, t, what), a, 0, 7, 20, t, what);
                }
            }
        }
    }

    private void askedCalls() {
        for (int tree : TREES) {
            for (int wind : WINDS) {
                ready();
                compare("kind", x.kind(tree, wind), model.kind(tree, wind), tree, wind);
                for (int kind : FEW) {
                    ready();
                    compare("as", x.as(tree, wind, kind), model.as(tree, wind, kind), tree, wind, kind);
                }
                for (int what = -1; what < 3; what++) {
                    ready();
                    compare("ask", x.ask(tree, wind, what), model.ask(tree, wind, what), tree, wind, what);
                    for (int i = -1; i < 6; i++) {
                        ready();
                        compare("trace", x.trace(i), model.trace(i), i);
                    }
                }
            }
        }
    }

    /** Each text cut off at each byte, without each byte, with each byte twice, with each byte as each of 256. */
    private void texts() {
        String[] woods = {"tree 10 1 0 0;wind 7 20 99;tune 0 999;", "\n tree9 1 1 1 ; tree 99 020 7 5;tune 12;",
            "tree 10 1 0 0;".repeat(12) + "wind 0 1 1;".repeat(6) + "tune 1 2 3 4 5 6 7 8 9 10;"};
        for (String text : woods) {
            oneOff(text, true, text.length() < 50 ? 256 : 0);
        }
        String[] orders = {"cut 0 1;let 1 89;turn 2 7;ice 3;", " thaw 0 ; fell 1;wet;dry;cut 2 90;", "wet;".repeat(12) + "dry;"};
        for (String text : orders) {
            oneOff(text, false, text.length() < 50 ? 256 : 0);
        }
    }

    private void oneOff(String text, boolean isWood, int signs) {
        state = isWood ? 0 : 3;
        for (int at = 0; at <= text.length(); at++) {
            String ahead = text.substring(0, at);
            String behind = text.substring(at);
            told(ahead, isWood);
            told(ahead + " \n" + behind, isWood);
            told(ahead + ";" + behind, isWood);
            told(ahead + "0" + behind, isWood);
            told(ahead + "t" + behind, isWood);
            told(ahead + (behind.isEmpty() ? "" : behind.substring(1)), isWood);
            for (int sign = 0; sign < signs && !behind.isEmpty(); sign++) {
                told(ahead + (char) sign + behind.substring(1), isWood);
            }
        }
    }

    private void told(String text, boolean isWood) {
        if (calls > CALLS - 100) {
            calls = CALLS;
        }
        ready();
        read(text, isWood);
        for (int what = 1; what < 8; what++) {
            is("count(" + what + ") behind \"" + text + "\"", x.count(what), model.count(what));
        }
        calls += 7;
    }
}
