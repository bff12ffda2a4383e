import java.util.ArrayList;
import java.util.Arrays;
import java.util.List;
import java.util.regex.Matcher;
import java.util.regex.Pattern;

/**
 * The document once more, written another way than the class: texts by patterns, edits by recursion,
 * images and orders by whole copies. What both answer alike, one slip of the pen has not made.
 */
final class Model {
    private static final int NONE = -1000000, BAD = -1000001, STATE = -1000002, FULL = -1000003;
    private static final Pattern TOKEN = Pattern.compile("[ \\n]*(?:([a-z]+)|([0-9]+)|(;)|(.)|$)", Pattern.DOTALL);

    private static final class Tree {
        int length, pull, side, grows;
        boolean ice, felled;

        Tree copied() {
            Tree t = new Tree();
            t.length = length;
            t.pull = pull;
            t.side = side;
            t.grows = grows;
            t.ice = ice;
            t.felled = felled;
            return t;
        }
    }

    private static final class Wood {
        List<Tree> trees = new ArrayList<>();
        List<int[]> winds = new ArrayList<>();
        List<Integer> tune = new ArrayList<>();
        List<Runner> done = new ArrayList<>();
        int years;
        boolean wet;

        Wood copied() {
            Wood w = new Wood();
            for (Tree t : trees) {
                w.trees.add(t.copied());
            }
            w.winds.addAll(winds);
            w.tune.addAll(tune);
            w.done.addAll(done);
            w.years = years;
            w.wet = wet;
            return w;
        }

        int tone(Tree t) {
            int tone = 1000 * t.pull / t.length;
            return wet ? tone - tone / 100 * 5 : tone;
        }

        boolean sounds(int tree, int wind) {
            Tree t = trees.get(tree);
            int[] v = winds.get(wind);
            boolean near = v[0] == t.side || (v[0] + 1) % 8 == t.side || (v[0] + 7) % 8 == t.side;
            return near && !t.ice && !t.felled && v[1] >= t.pull / 2;
        }

        List<Integer> sounding(int wind) {
            List<Integer> who = new ArrayList<>();
            for (int tree = 0; tree < trees.size(); tree++) {
                if (sounds(tree, wind)) {
                    who.add(tree);
                }
            }
            return who;
        }

        List<Integer> sound(int wind) {
            List<Integer> tones = new ArrayList<>();
            for (int tree : sounding(wind)) {
                tones.add(tone(trees.get(tree)));
            }
            return tones;
        }

        int slips(int wind, int t) {
            List<Integer> sung = sound(wind);
            int[][] known = new int[sung.size() + 1][tune.size() + 1];
            for (int[] row : known) {
                Arrays.fill(row, -1);
            }
            return slipsFrom(sung, 0, 0, t, known);
        }

        private int slipsFrom(List<Integer> sung, int i, int j, int t, int[][] known) {
            if (i == sung.size() || j == tune.size()) {
                return sung.size() - i + tune.size() - j;
            }
            if (known[i][j] < 0) {
                boolean same = Math.abs(sung.get(i) - tune.get(j)) <= t;
                int best = slipsFrom(sung, i + 1, j + 1, t, known) + (same ? 0 : 1);
                best = Math.min(best, 1 + slipsFrom(sung, i + 1, j, t, known));
                best = Math.min(best, 1 + slipsFrom(sung, i, j + 1, t, known));
                known[i][j] = best;
            }
            return known[i][j];
        }

        void year() {
            for (Tree t : trees) {
                if (!t.ice && !t.felled) {
                    t.length = Math.min(999, t.length + t.grows);
                }
            }
        }
    }

    private interface Runner {
        void run(Wood wood);
    }

    private final StringBuilder tape = new StringBuilder();
    private final int[][] rows = new int[8][];
    private final int[] lanes = new int[8];
    private final Wood[] images = new Wood[2];
    private Wood wood;
    private int fault;
    private int status;
    private List<Integer> trace = new ArrayList<>();

    private int found(int number) {
        status = number;
        return -1000010 - number;
    }

    private int good(int answer) {
        status = 0;
        return answer;
    }

    private static boolean within(int v, int least, int most) {
        return v >= least && v <= most;
    }

    private static boolean places(int[] row, long i, long n) {
        return i >= 0 && n >= 0 && i + n <= row.length;
    }

    int row(int row, int lane, int n) {
        if (!within(row, 0, 7) || !within(lane, 0, 2) || n > 40) {
            return BAD;
        }
        if (n < 0) {
            return found(4);
        }
        rows[row] = new int[n];
        lanes[row] = lane;
        return good(n);
    }

    int set(int row, int i, int v) {
        if (!within(row, 0, 7)) {
            return BAD;
        }
        if (rows[row] == null) {
            return found(1);
        }
        if (!within(i, 0, rows[row].length - 1)) {
            return found(2);
        }
        int drop = new int[] {24, 16, 0}[lanes[row]];
        rows[row][i] = v << drop >> drop;
        return good(rows[row][i]);
    }

    int copy(int a, int i, int b, int j, int n) {
        if (!within(a, 0, 7) || !within(b, 0, 7)) {
            return BAD;
        }
        if (rows[a] == null || rows[b] == null) {
            return found(1);
        }
        if (lanes[a] != lanes[b]) {
            return found(5);
        }
        if (!places(rows[a], i, n) || !places(rows[b], j, n)) {
            return found(2);
        }
        int[] ahead = rows[a].clone();
        for (int k = 0; k < n; k++) {
            rows[b][j + k] = ahead[i + k];
        }
        return good(n);
    }

    int drop(int row) {
        if (!within(row, 0, 7)) {
            return BAD;
        }
        if (rows[row] == null) {
            return found(1);
        }
        int had = rows[row].length;
        rows[row] = null;
        return good(had);
    }

    int feed(long w, int n) {
        if (!within(n, 1, 8)) {
            return BAD;
        }
        if (tape.length() + n > 400) {
            return FULL;
        }
        for (int k = n - 1; k >= 0; k--) {
            tape.append((char) (w >>> 8 * k & 255));
        }
        return tape.length();
    }

    /** The tokens of a text as words, with their places; what is none is told as "?". */
    private static final class Text {
        final List<String> words = new ArrayList<>();
        final List<Integer> places = new ArrayList<>();
        int at;

        Text(String text) {
            Matcher m = TOKEN.matcher(text);
            int from = 0;
            while (m.find(from) && m.start() == from) {
                int group = m.group(1) != null ? 1 : m.group(2) != null ? 2 : m.group(3) != null ? 3 : m.group(4) != null ? 4 : 0;
                if (group == 0) {
                    break;
                }
                String word = m.group(group);
                words.add(group == 4 || group == 2 && word.length() > 3 ? "?" : word);
                places.add(m.start(group));
                from = m.end();
            }
            words.add("");
            places.add(text.length());
        }

        String word() {
            return words.get(at);
        }

        Fault fault(int number) {
            return new Fault(places.get(at), number);
        }

        int number(int least, int most) throws Fault {
            String word = word();
            if (word.isEmpty() || !Character.isDigit(word.charAt(0))) {
                throw fault(1);
            }
            int v = Integer.parseInt(word);
            if (!within(v, least, most)) {
                throw fault(2);
            }
            at++;
            return v;
        }

        void sign() throws Fault {
            if (!word().equals(";")) {
                throw fault(1);
            }
            at++;
        }
    }

    private static final class Fault extends Exception {
        private static final long serialVersionUID = 1;
        final int place, number;

        Fault(int place, int number) {
            this.place = place;
            this.number = number;
        }
    }

    private Text taken() {
        Text text = new Text(tape.toString());
        tape.setLength(0);
        return text;
    }

    private int failed(Fault f) {
        fault = f.number;
        return -1000100 - f.place;
    }

    int wood() {
        Text text = taken();
        Wood read = new Wood();
        try {
            do {
                if (!text.word().equals("tree")) {
                    throw text.fault(1);
                }
                if (read.trees.size() == 12) {
                    throw text.fault(3);
                }
                text.at++;
                Tree t = new Tree();
                t.length = text.number(10, 99);
                t.pull = text.number(1, 20);
                t.side = text.number(0, 7);
                t.grows = text.number(0, 5);
                text.sign();
                read.trees.add(t);
            } while (text.word().equals("tree"));
            while (text.word().equals("wind")) {
                if (read.winds.size() == 6) {
                    throw text.fault(3);
                }
                text.at++;
                int[] v = {text.number(0, 7), text.number(1, 20), text.number(1, 99)};
                text.sign();
                read.winds.add(v);
            }
            if (text.word().equals("tune")) {
                text.at++;
                do {
                    int at = text.at;
                    int tone = text.number(0, 999);
                    if (read.tune.size() == 10) {
                        text.at = at;
                        throw text.fault(3);
                    }
                    read.tune.add(tone);
                } while (!text.word().equals(";") && !text.word().isEmpty());
                text.sign();
            }
            if (!text.word().isEmpty()) {
                throw text.fault(1);
            }
        } catch (Fault f) {
            return failed(f);
        }
        wood = read;
        return wood.trees.size();
    }

    /** Reads one order: how it is done; it leaves with the wood how it is undone. */
    private Runner order(Text text, int room) throws Fault {
        String word = text.word();
        if (!List.of("cut", "let", "turn", "ice", "thaw", "fell", "wet", "dry").contains(word)) {
            throw text.fault(1);
        }
        if (room == 0) {
            throw text.fault(3);
        }
        text.at++;
        boolean weather = word.equals("wet") || word.equals("dry");
        int tree = weather ? 0 : text.number(0, wood.trees.size() - 1);
        boolean lengths = word.equals("cut") || word.equals("let");
        int n = lengths ? text.number(1, 89) : word.equals("turn") ? text.number(0, 7) : 0;
        text.sign();
        return w -> {
            Tree t = w.trees.get(tree);
            Tree was = t.copied();
            boolean wasWet = w.wet;
            switch (word) {
                case "cut" -> t.length = Math.max(10, t.length - n);
                case "let" -> t.length = Math.min(999, t.length + n);
                case "turn" -> t.side = n;
                case "ice" -> t.ice = true;
                case "thaw" -> t.ice = false;
                case "fell" -> t.felled = true;
                case "wet" -> w.wet = true;
                default -> w.wet = false;
            }
            int gave = t.length - was.length;
            w.done.add(v -> {
                Tree u = v.trees.get(tree);
                u.length = Math.max(10, Math.min(999, u.length - gave));
                u.side = was.side;
                u.ice = was.ice;
                u.felled = was.felled;
                v.wet = wasWet;
            });
        };
    }

    int orders() {
        if (wood == null) {
            return STATE;
        }
        Text text = taken();
        List<Runner> all = new ArrayList<>();
        try {
            do {
                all.add(order(text, 12 - all.size()));
            } while (!text.word().isEmpty());
        } catch (Fault f) {
            return failed(f);
        }
        if (wood.done.size() + all.size() > 60) {
            return FULL;
        }
        for (Runner one : all) {
            one.run(wood);
        }
        return wood.done.size();
    }

    int fault() {
        return fault;
    }

    int undo() {
        if (wood == null || wood.done.isEmpty()) {
            return STATE;
        }
        wood.done.remove(wood.done.size() - 1).run(wood);
        return wood.done.size();
    }

    int go(int n) {
        if (wood == null) {
            return STATE;
        }
        if (!within(n, 1, 60)) {
            return BAD;
        }
        for (int i = 0; i < n; i++) {
            wood.year();
            wood.years++;
        }
        return wood.years;
    }

    private boolean noTree(int tree) {
        return wood == null || !within(tree, 0, wood.trees.size() - 1);
    }

    private boolean noWind(int wind) {
        return wood == null || !within(wind, 0, wood.winds.size() - 1);
    }

    int tree(int tree, int what) {
        if (noTree(tree) || !within(what, 0, 6)) {
            return BAD;
        }
        Tree t = wood.trees.get(tree);
        return new int[] {t.length, t.pull, t.side, t.grows, t.ice ? 1 : 0, t.felled ? 1 : 0, wood.tone(t)}[what];
    }

    int sound(int wind, int k) {
        if (noWind(wind) || k < 0) {
            return BAD;
        }
        List<Integer> tones = wood.sound(wind);
        return k < tones.size() ? tones.get(k) : NONE;
    }

    private static boolean badT(int t) {
        return !within(t, 0, 99);
    }

    private static boolean badX(int x) {
        return !within(x, 0, 20);
    }

    int slips(int wind, int t) {
        return noWind(wind) || badT(t) ? BAD : wood.slips(wind, t);
    }

    int cheapest(int a, int b, int s, int x, int t, int what) {
        if (noWind(a) || noWind(b) || !within(s, 1, 20) || badX(x) || badT(t) || !within(what, 0, 2)) {
            return BAD;
        }
        List<Integer> who = wood.sounding(a);
        who = who.subList(0, Math.min(5, who.size()));
        int[] best = null;
        int rows = (int) Math.round(Math.pow(4, who.size()));
        for (int code = 0; code < rows; code++) {
            Wood cut = wood.copied();
            int rest = code;
            int sum = 0;
            boolean tooShort = false;
            for (int k = who.size() - 1; k >= 0; k--) {
                Tree t1 = cut.trees.get(who.get(k));
                t1.length -= rest % 4 * s;
                tooShort |= t1.length < 10;
                sum += rest % 4;
                rest /= 4;
            }
            if (tooShort || cut.slips(a, t) > x) {
                continue;
            }
            int[] now = {sum, cut.slips(b, t), code};
            if (best == null || now[0] < best[0] || now[0] == best[0] && now[1] > best[1]) {
                best = now;
            }
        }
        return best == null ? NONE : best[what];
    }

    int tuned(int wind, int x, int t) {
        if (noWind(wind) || badX(x) || badT(t)) {
            return BAD;
        }
        Wood later = wood.copied();
        for (int year = 0; year <= 60; year++, later.year()) {
            if (later.slips(wind, t) > x) {
                return year;
            }
        }
        return NONE;
    }

    int plays(int x, int t, int what) {
        if (wood == null) {
            return STATE;
        }
        if (badX(x) || badT(t) || !within(what, 0, 1)) {
            return BAD;
        }
        if (wood.winds.isEmpty()) {
            return NONE;
        }
        int above = 0;
        int below = 0;
        for (int wind = 0; wind < wood.winds.size(); wind++) {
            below += wood.winds.get(wind)[2];
            above += wood.slips(wind, t) <= x ? wood.winds.get(wind)[2] : 0;
        }
        for (int d = below; d > 1; d--) {
            if (above % d == 0 && below % d == 0) {
                above /= d;
                below /= d;
            }
        }
        return what == 0 ? above : below;
    }

    int buzz(int wind) {
        if (noWind(wind)) {
            return BAD;
        }
        int bits = 0;
        for (int one : wood.sounding(wind)) {
            for (int other : wood.sounding(wind)) {
                int apart = Math.abs(wood.tone(wood.trees.get(one)) - wood.tone(wood.trees.get(other)));
                bits |= within(apart, 1, 3) ? 1 << one : 0;
            }
        }
        return bits;
    }

    int birds(int wind, int row, int i, int n, int t) {
        if (noWind(wind) || !within(row, 0, 7) || !within(n, 1, 20) || badT(t)) {
            return BAD;
        }
        if (rows[row] == null) {
            return found(1);
        }
        if (!places(rows[row], i, n)) {
            return found(2);
        }
        List<Integer> tones = wood.sound(wind);
        int[][] best = new int[n + 1][tones.size() + 1];
        for (int h = n - 1; h >= 0; h--) {
            for (int k = tones.size() - 1; k >= 0; k--) {
                best[h][k] = Math.max(best[h + 1][k], best[h][k + 1]);
                if (Math.abs((long) rows[row][i + h] - tones.get(k)) <= t) {
                    best[h][k] = Math.max(best[h][k], best[h + 1][k + 1] + 1);
                }
            }
        }
        return good(n - best[0][0]);
    }

    int hung(int p, int g, int u, int y) {
        if (!within(p, 1, 20) || !within(g, 0, 5) || !within(u, 0, 2000) || !within(y, 0, 60)) {
            return BAD;
        }
        for (int length = 10; length < 100; length++) {
            Wood one = new Wood();
            Tree t = new Tree();
            t.pull = p;
            t.length = length;
            t.grows = g;
            one.trees.add(t);
            for (int i = 0; i < y; i++) {
                one.year();
            }
            if (one.tone(t) == u) {
                return length;
            }
        }
        return NONE;
    }

    int missing(int wind, int row, int n, int i) {
        if (noWind(wind) || !within(row, 0, 7) || !within(n, 0, 12) || i < -1) {
            return BAD;
        }
        if (rows[row] == null) {
            return found(1);
        }
        if (!places(rows[row], 0, n)) {
            return found(2);
        }
        List<Integer> heard = new ArrayList<>();
        for (int k = 0; k < n; k++) {
            heard.add(rows[row][k]);
        }
        List<Integer> who = wood.sounding(wind);
        List<Integer> sets = new ArrayList<>();
        for (int pick = 0; pick < 1 << who.size(); pick++) {
            List<Integer> left = new ArrayList<>();
            int bits = 0;
            for (int k = 0; k < who.size(); k++) {
                if ((pick >> k & 1) == 1) {
                    bits += 1 << who.get(k);
                } else {
                    left.add(wood.tone(wood.trees.get(who.get(k))));
                }
            }
            if (left.equals(heard)) {
                sets.add(bits);
            }
        }
        sets.sort(null);
        return good(i < 0 ? sets.size() : i < sets.size() ? sets.get(i) : NONE);
    }

    int image(int k) {
        if (!within(k, 0, 1)) {
            return BAD;
        }
        if (wood == null) {
            return STATE;
        }
        images[k] = wood.copied();
        return 1;
    }

    int restore(int k) {
        if (!within(k, 0, 1)) {
            return BAD;
        }
        if (images[k] == null) {
            return STATE;
        }
        wood = images[k].copied();
        return 1;
    }

    int kind(int tree, int wind) {
        if (noTree(tree) || noWind(wind)) {
            return BAD;
        }
        Tree t = wood.trees.get(tree);
        if (t.felled) {
            return 5;
        }
        if (t.ice) {
            return 2;
        }
        if (!wood.sounds(tree, wind)) {
            return 1;
        }
        return (buzz(wind) & 1 << tree) != 0 ? 4 : 3;
    }

    int as(int tree, int wind, int kind) {
        if (noTree(tree) || noWind(wind) || !within(kind, 0, 5)) {
            return BAD;
        }
        List<List<Integer>> all = List.of(List.of(0), List.of(0, 1), List.of(0, 1, 2), List.of(0, 3), List.of(0, 3, 4),
            List.of(0, 1, 5));
        return all.get(kind(tree, wind)).contains(kind) ? good(tree) : found(3);
    }

    /** The kinds as classes, by which Java itself finds the nearest body. */
    private class Plain {
        final int number;

        Plain(int number) {
            this.number = number;
        }

        int size() {
            trace.add(10);
            return wood.trees.get(number).length;
        }

        int mark() {
            trace.add(20);
            return number;
        }
    }

    private class Mute extends Plain {
        Mute(int number) {
            super(number);
        }

        @Override int size() {
            trace.add(13);
            return super.size() - 1000;
        }

        @Override int mark() {
            trace.add(23);
            return -super.mark();
        }
    }

    private class Iced extends Mute {
        Iced(int number) {
            super(number);
        }

        @Override int mark() {
            trace.add(22);
            int mute = super.mark();
            return mute + size();
        }
    }

    private class Fallen extends Mute {
        Fallen(int number) {
            super(number);
        }

        @Override int size() {
            trace.add(14);
            int once = super.size();
            return once + once;
        }

        @Override int mark() {
            trace.add(24);
            return super.mark() - 100;
        }
    }

    private class Singing extends Plain {
        Singing(int number) {
            super(number);
        }

        @Override int size() {
            trace.add(11);
            int plain = super.size();
            return plain + mark();
        }

        @Override int mark() {
            trace.add(21);
            return super.mark() + wood.tone(wood.trees.get(number));
        }
    }

    private class Buzzing extends Singing {
        Buzzing(int number) {
            super(number);
        }

        @Override int size() {
            trace.add(12);
            return -super.size();
        }
    }

    int ask(int tree, int wind, int what) {
        if (noTree(tree) || noWind(wind) || !within(what, 0, 1)) {
            return BAD;
        }
        trace = new ArrayList<>();
        Plain asked = switch (kind(tree, wind)) {
            case 1 -> new Mute(tree);
            case 2 -> new Iced(tree);
            case 3 -> new Singing(tree);
            case 4 -> new Buzzing(tree);
            default -> new Fallen(tree);
        };
        return what == 0 ? asked.size() : asked.mark();
    }

    int trace(int i) {
        return i >= 0 && i < Math.min(16, trace.size()) ? trace.get(i) : NONE;
    }

    int count(int what) {
        Wood w = wood == null ? new Wood() : wood;
        int there = 0;
        for (int[] row : rows) {
            there += row == null ? 0 : 1;
        }
        int[] all = {there, w.trees.size(), w.winds.size(), w.tune.size(), w.years, w.wet ? 1 : 0, w.done.size(), tape.length()};
        return within(what, 0, 7) ? all[what] : BAD;
    }

    int status() {
        return status;
    }
}
