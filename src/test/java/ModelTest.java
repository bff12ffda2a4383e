import java.util.Random;

/** All promises: long runs of calls, each answered by the class as by the model, told by fixed seeds. */
public final class ModelTest {
    private static final int RUNS = 4000, CALLS = 512;
    private static final int[] ODD = {Integer.MIN_VALUE, Integer.MIN_VALUE + 1, -1000000, -2, -1, 0, 1, 2, 1000, 65536,
        Integer.MAX_VALUE - 1, Integer.MAX_VALUE};

    private final Due due;
    private final Random random;
    private final WindHarp x = new WindHarp();
    private final Model model = new Model();
    private final StringBuilder calls = new StringBuilder();

    private ModelTest(Due due, long seed) {
        this.due = due;
        random = new Random(seed);
    }

    public static void main(String[] args) {
        Due due = new Due("ModelTest");
        for (long seed = 1; seed <= RUNS; seed++) {
            ModelTest test = new ModelTest(due, seed);
            for (int i = 0; i < CALLS; i++) {
                test.step();
            }
        }
        due.end();
    }

    private int upTo(int n) {
        return random.nextInt(n + 1);
    }

    /** Mostly from least to most, at times one beyond, now and then any int. */
    private int pick(int least, int most) {
        int luck = random.nextInt(60);
        if (luck == 0) {
            return ODD[random.nextInt(ODD.length)];
        }
        if (luck == 1) {
            return random.nextBoolean() ? least - 1 : most + 1;
        }
        return least + random.nextInt(most - least + 1);
    }

    private void compare(String call, int got, int want) {
        due.is(call, got, want);
    }

    private void feed(String text) {
        for (int at = 0; at < text.length(); at += 8) {
            int n = Math.min(8, text.length() - at);
            long w = random.nextLong();
            for (int i = 0; i < n; i++) {
                w = w << 8 | text.charAt(at + i) & 255;
            }
            compare("feed", x.feed(w, n), model.feed(w, n));
        }
    }

    private String blank(boolean needed) {
        String[] some = {" ", "\n", "  ", " \n"};
        return needed || upTo(6) == 0 ? some[upTo(3)] : "";
    }

    private void word(StringBuilder text, String word, int... numbers) {
        text.append(blank(false)).append(word);
        boolean first = true;
        for (int number : numbers) {
            text.append(blank(!first || upTo(1) == 0));
            text.append(upTo(20) == 0 && number < 10 ? "0" : "").append(number);
            first = false;
        }
        text.append(blank(false)).append(';');
    }

    private String woodText() {
        StringBuilder text = new StringBuilder();
        boolean close = upTo(2) > 0;
        int sides = upTo(3) == 0 ? 7 : 2;
        int trees = 1 + (upTo(30) == 0 ? 12 : upTo(upTo(3) == 0 ? 11 : 6));
        int[] reached = new int[trees];
        for (int i = 0; i < trees; i++) {
            int length = close ? 25 + upTo(8) : 10 + upTo(89);
            int pull = close ? 3 + upTo(1) : 1 + upTo(19);
            word(text, "tree", length, pull, upTo(sides), upTo(5));
            reached[i] = Math.min(999, 1000 * pull / Math.max(10, length - upTo(12)));
        }
        int winds = upTo(40) == 0 ? 7 : upTo(12) == 0 ? 0 : 1 + upTo(3);
        for (int i = 0; i < winds; i++) {
            word(text, "wind", upTo(sides), 1 + upTo(19), 1 + upTo(98));
        }
        if (upTo(5) > 0) {
            int[] tones = new int[1 + (upTo(30) == 0 ? 10 : upTo(upTo(3) == 0 ? 9 : 5))];
            for (int i = 0; i < tones.length; i++) {
                tones[i] = upTo(5) == 0 ? upTo(999) : reached[i % trees];
            }
            word(text, "tune", tones);
        }
        return text.toString();
    }

    private String ordersText() {
        StringBuilder text = new StringBuilder();
        int trees = Math.max(1, model.count(1));
        int orders = 1 + (upTo(20) == 0 ? 12 : upTo(5));
        for (int i = 0; i < orders; i++) {
            int tree = upTo(80) == 0 ? trees : upTo(trees - 1);
            switch (upTo(9)) {
                case 0, 1 -> word(text, "cut", tree, 1 + upTo(upTo(2) == 0 ? 88 : 8));
                case 2 -> word(text, "let", tree, 1 + upTo(upTo(2) == 0 ? 88 : 8));
                case 3 -> word(text, "turn", tree, upTo(7));
                case 4 -> word(text, "ice", tree);
                case 5, 6 -> word(text, "thaw", tree);
                case 7 -> word(text, upTo(4) == 0 ? "fell" : "thaw", tree);
                case 8 -> word(text, "wet");
                default -> word(text, "dry");
            }
        }
        return text.toString();
    }

    /** A byte more, a byte less, a byte changed, or a piece twice. */
    private String spoilt(String text) {
        StringBuilder s = new StringBuilder(text);
        String signs = "tree windtuncuflhay0123456789;; \n\t,A\u0000\u00ff";
        int at = upTo(s.length() - 1);
        switch (upTo(4)) {
            case 0 -> s.insert(at, signs.charAt(upTo(signs.length() - 1)));
            case 1 -> s.deleteCharAt(at);
            case 2 -> s.setCharAt(at, signs.charAt(upTo(signs.length() - 1)));
            case 3 -> s.setLength(at);
            default -> s.append(text, at, text.length());
        }
        return s.toString();
    }

    private void readText() {
        boolean wood = model.count(1) == 0 ? upTo(5) > 0 : upTo(5) == 0;
        String text = wood ? woodText() : ordersText();
        if (upTo(3) == 0) {
            text = spoilt(text);
        }
        feed(text);
        if (upTo(30) == 0) {
            wood = !wood;
        }
        compare("read \"" + text + "\"", wood ? x.wood() : x.orders(), wood ? model.wood() : model.orders());
        compare("fault", x.fault(), model.fault());
    }

    private int wind() {
        return pick(0, Math.max(0, model.count(2) - 1));
    }

    private int tree() {
        return pick(0, Math.max(0, model.count(1) - 1));
    }

    private void rowCalls() {
        int a = pick(0, 7) & (upTo(3) == 0 ? -1 : 1);
        int b = pick(0, 7) & (upTo(3) == 0 ? -1 : 1);
        switch (upTo(7)) {
            case 0 -> {
                int lane = upTo(2) == 0 ? pick(0, 2) : 1;
                int n = pick(0, 40);
                compare("row", x.row(a, lane, n), model.row(a, lane, n));
            }
            case 1 -> {
                int i = pick(0, 12);
                int j = pick(0, 12);
                int n = pick(0, 20);
                compare("copy", x.copy(a, i, b, j, n), model.copy(a, i, b, j, n));
            }
            case 2 -> {
                if (upTo(4) == 0) {
                    compare("drop", x.drop(a), model.drop(a));
                }
            }
            default -> {
                int i = pick(0, 20);
                int v = upTo(9) == 0 ? random.nextInt() : pick(80, 160);
                compare("set", x.set(a, i, v), model.set(a, i, v));
            }
        }
    }

    /** What a wind sounds, less some tones, is put in a row, so that missing() finds some. */
    private void heard() {
        int wind = wind();
        int row = upTo(1);
        int n = 0;
        compare("row", x.row(row, 2, 20), model.row(row, 2, 20));
        for (int k = 0; k < 12; k++) {
            int tone = model.sound(wind, k);
            compare("sound", x.sound(wind, k), tone);
            if (tone >= 0 && upTo(2) > 0) {
                compare("set", x.set(row, n, tone), model.set(row, n, tone));
                n++;
            }
        }
        int sets = model.missing(wind, row, n, -1);
        compare("missing", x.missing(wind, row, n, -1), sets);
        for (int k = 0; k < 4; k++) {
            int i = k == 3 ? sets : upTo(Math.max(0, sets - 1));
            compare("missing", x.missing(wind, row, n, i), model.missing(wind, row, n, i));
        }
    }

    private void foretold() {
        int wind = wind();
        int other = wind();
        int t = upTo(1) == 0 ? pick(0, 12) : pick(0, 99);
        int s = pick(1, 20);
        int slack = upTo(1) == 0 ? pick(0, 4) : pick(0, 20);
        switch (upTo(9)) {
            case 0 -> compare("slips", x.slips(wind, t), model.slips(wind, t));
            case 1 -> {
                int what = pick(0, 2);
                if (upTo(5) == 0) {
                    compare("cheapest", x.cheapest(wind, other, s, slack, t, what), model.cheapest(wind, other, s, slack, t, what));
                }
            }
            case 2 -> compare("tuned", x.tuned(wind, slack, t), model.tuned(wind, slack, t));
            case 3 -> {
                int what = pick(0, 1);
                compare("plays", x.plays(slack, t, what), model.plays(slack, t, what));
            }
            case 4 -> compare("buzz", x.buzz(wind), model.buzz(wind));
            case 5 -> {
                int row = pick(0, 1);
                int i = pick(0, 10);
                int n = pick(1, 20);
                compare("birds", x.birds(wind, row, i, n, t), model.birds(wind, row, i, n, t));
            }
            case 6 -> {
                int p = pick(1, 20);
                int g = pick(0, 5);
                int u = upTo(1) == 0 ? pick(0, 2000) : pick(10, 200);
                int y = pick(0, 60);
                compare("hung", x.hung(p, g, u, y), model.hung(p, g, u, y));
            }
            case 7 -> {
                int row = pick(0, 7);
                int n = pick(0, 12);
                int i = pick(-1, 4);
                compare("missing", x.missing(wind, row, n, i), model.missing(wind, row, n, i));
            }
            default -> heard();
        }
    }

    private void asked() {
        int tree = tree();
        int wind = wind();
        switch (upTo(3)) {
            case 0 -> compare("kind", x.kind(tree, wind), model.kind(tree, wind));
            case 1 -> {
                int kind = pick(0, 5);
                compare("as", x.as(tree, wind, kind), model.as(tree, wind, kind));
            }
            case 2 -> {
                int what = pick(0, 1);
                compare("ask", x.ask(tree, wind, what), model.ask(tree, wind, what));
            }
            default -> {
                int i = pick(0, 6);
                compare("trace", x.trace(i), model.trace(i));
            }
        }
    }

    private void stateCalls() {
        int k = pick(0, 1);
        switch (upTo(7)) {
            case 0 -> {
                int n = upTo(1) == 0 ? pick(1, 3) : pick(1, 60);
                compare("go", x.go(n), model.go(n));
            }
            case 1, 2 -> compare("undo", x.undo(), model.undo());
            case 3 -> compare("image", x.image(k), model.image(k));
            case 4 -> {
                if (upTo(2) == 0) {
                    compare("restore", x.restore(k), model.restore(k));
                }
            }
            case 5 -> {
                int tree = tree();
                int what = pick(0, 6);
                compare("tree", x.tree(tree, what), model.tree(tree, what));
            }
            default -> {
                int what = pick(0, 7);
                compare("count", x.count(what), model.count(what));
            }
        }
    }

    private void step() {
        switch (upTo(9)) {
            case 0 -> readText();
            case 1, 2 -> rowCalls();
            case 3, 4, 5 -> foretold();
            case 6, 7 -> asked();
            default -> stateCalls();
        }
        compare("status", x.status(), model.status());
    }
}
