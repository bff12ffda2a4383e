/** The wind's harp: a wood of trees hung with wires, as ../shared/DOC.md tells it. */
public final class WindHarp {
    public static final int NONE = -1000000, BAD = -1000001, STATE = -1000002, FULL = -1000003;

    private static final int FINDING = -1000010, FAULT_AT = -1000100;
    private static final int NULL = 1, PLACE = 2, KIND = 3, SIZE = 4, STORE = 5;

    private static final int TAPE_MOST = 400, TREES_MOST = 12, WINDS_MOST = 6, TONES_MOST = 10;
    private static final int ORDERS_MOST = 12, DONE_MOST = 60, YEARS_MOST = 60;
    private static final int LENGTH_LEAST = 10, LENGTH_MOST = 999, HUNG_MOST = 99;
    private static final int PULL_MOST = 20, GROWS_MOST = 5, SIDES = 8, STEP_MOST = 20;
    private static final int SLIPS_MOST = 20, APART_MOST = 99, HEARD_MOST = 20;

    private static final int CUT = 0, LET = 1, TURN = 2, ICE = 3, THAW = 4, FELL = 5, WET = 6, DRY = 7;

    private static final int TREE = 0, MUTE = 1, ICED = 2, SINGING = 3, BUZZING = 4, FALLEN = 5;

    private final Reader reader = new Reader();
    private final Rows rows = new Rows();
    private final Wood current = new Wood();
    private final Wood draft = new Wood();
    private final Wood firstImage = new Wood();
    private final Wood secondImage = new Wood();
    private final Deeds told = new Deeds();
    private final Ear ear = new Ear();
    private final Cuts cuts = new Cuts();
    private final Asks asks = new Asks();
    private final int[] heard = new int[HEARD_MOST];
    private int faultNumber;
    private int finding;

    public WindHarp() {
    }

    // ---- rows

    public int row(int row, int lane, int n) {
        if (!Rows.isRow(row) || lane < Rows.BYTES || lane > Rows.INTS || n > Rows.ITEMS_MOST) {
            return BAD;
        }
        if (n < 0) {
            return found(SIZE);
        }
        rows.make(row, lane, n);
        return passed(n);
    }

    public int set(int row, int i, int v) {
        if (!Rows.isRow(row)) {
            return BAD;
        }
        if (!rows.isThere(row)) {
            return found(NULL);
        }
        if (!rows.hasPlaces(row, i, 1)) {
            return found(PLACE);
        }
        return passed(rows.put(row, i, v));
    }

    public int copy(int a, int i, int b, int j, int n) {
        if (!Rows.isRow(a) || !Rows.isRow(b)) {
            return BAD;
        }
        if (!rows.isThere(a) || !rows.isThere(b)) {
            return found(NULL);
        }
        if (!rows.areAlike(a, b)) {
            return found(STORE);
        }
        if (!rows.hasPlaces(a, i, n) || !rows.hasPlaces(b, j, n)) {
            return found(PLACE);
        }
        rows.move(a, i, b, j, n);
        return passed(n);
    }

    public int drop(int row) {
        if (!Rows.isRow(row)) {
            return BAD;
        }
        if (!rows.isThere(row)) {
            return found(NULL);
        }
        return passed(rows.takeAway(row));
    }

    // ---- woods, orders, years

    public int feed(long w, int n) {
        if (n < 1 || n > 8) {
            return BAD;
        }
        if (reader.size > TAPE_MOST - n) {
            return FULL;
        }
        reader.addBytes(w, n);
        return reader.size;
    }

    public int wood() {
        reader.readWood(draft);
        reader.size = 0;
        if (reader.fault != 0) {
            return faulted();
        }
        current.takeOver(draft);
        return current.trees.count;
    }

    public int orders() {
        if (!current.isThere) {
            return STATE;
        }
        reader.readOrders(told, current.trees.count);
        reader.size = 0;
        if (reader.fault != 0) {
            return faulted();
        }
        if (told.count > DONE_MOST - current.done.count) {
            return FULL;
        }
        current.carryOutAll(told);
        return current.done.count;
    }

    public int fault() {
        return faultNumber;
    }

    public int undo() {
        if (current.done.count < 1) {
            return STATE;
        }
        current.takeBack();
        return current.done.count;
    }

    public int go(int n) {
        if (!current.isThere) {
            return STATE;
        }
        if (n < 1 || n > YEARS_MOST) {
            return BAD;
        }
        current.grow(n);
        return current.years;
    }

    public int tree(int tree, int what) {
        if (!current.trees.has(tree)) {
            return BAD;
        }
        switch (what) {
            case 0: return current.trees.length[tree];
            case 1: return current.trees.pull[tree];
            case 2: return current.trees.side[tree];
            case 3: return current.trees.grows[tree];
            case 4: return current.trees.ice[tree];
            case 5: return current.trees.felled[tree];
            case 6: return current.toneOf(tree);
            default: return BAD;
        }
    }

    public int sound(int wind, int k) {
        if (!current.winds.has(wind) || k < 0) {
            return BAD;
        }
        ear.listen(current, wind);
        return k < ear.count ? ear.tones[k] : NONE;
    }

    // ---- heard, foretold

    public int slips(int wind, int t) {
        if (!current.winds.has(wind) || !isApart(t)) {
            return BAD;
        }
        return slipsIn(current, wind, t);
    }

    public int cheapest(int a, int b, int s, int x, int t, int what) {
        if (!current.winds.has(a) || !current.winds.has(b) || s < 1 || s > STEP_MOST) {
            return BAD;
        }
        if (!isSlack(x) || !isApart(t) || what < 0 || what > 2) {
            return BAD;
        }
        int steps = cheapestSteps(a, b, s, x, t);
        if (steps < 0) {
            return NONE;
        }
        if (what == 0) {
            return Cuts.sumOf(steps);
        }
        if (what == 2) {
            return steps;
        }
        cuts.tryOn(current, draft, steps, s);
        return slipsIn(draft, b, t);
    }

    public int tuned(int wind, int x, int t) {
        if (!current.winds.has(wind) || !isSlack(x) || !isApart(t)) {
            return BAD;
        }
        draft.takeOver(current);
        for (int year = 0; year <= YEARS_MOST; year++) {
            if (slipsIn(draft, wind, t) > x) {
                return year;
            }
            draft.grow(1);
        }
        return NONE;
    }

    public int plays(int x, int t, int what) {
        if (!current.isThere) {
            return STATE;
        }
        if (!isSlack(x) || !isApart(t) || what < 0 || what > 1) {
            return BAD;
        }
        int above = 0;
        int below = 0;
        for (int wind = 0; wind < current.winds.count; wind++) {
            below += current.winds.odds[wind];
            if (slipsIn(current, wind, t) <= x) {
                above += current.winds.odds[wind];
            }
        }
        int shared = sharedDivisor(above, below);
        if (shared < 1) {
            return NONE;
        }
        return (what == 0 ? above : below) / shared;
    }

    public int buzz(int wind) {
        if (!current.winds.has(wind)) {
            return BAD;
        }
        ear.listen(current, wind);
        return ear.buzzing();
    }

    public int birds(int wind, int row, int i, int n, int t) {
        if (!current.winds.has(wind) || !Rows.isRow(row) || n < 1 || n > HEARD_MOST || !isApart(t)) {
            return BAD;
        }
        if (!rows.isThere(row)) {
            return found(NULL);
        }
        if (!rows.hasPlaces(row, i, n)) {
            return found(PLACE);
        }
        rows.read(row, i, heard, n);
        ear.listen(current, wind);
        return passed(n - ear.sharedWith(heard, n, t));
    }

    public int hung(int p, int g, int u, int y) {
        if (p < 1 || p > PULL_MOST || g < 0 || g > GROWS_MOST || u < 0 || u > 2000 || y < 0 || y > YEARS_MOST) {
            return BAD;
        }
        for (int length = LENGTH_LEAST; length <= HUNG_MOST; length++) {
            if (Wood.dryTone(p, Trees.longer(length, y * g)) == u) {
                return length;
            }
        }
        return NONE;
    }

    public int missing(int wind, int row, int n, int i) {
        if (!current.winds.has(wind) || !Rows.isRow(row) || n < 0 || n > TREES_MOST || i < -1) {
            return BAD;
        }
        if (!rows.isThere(row)) {
            return found(NULL);
        }
        if (!rows.hasPlaces(row, 0, n)) {
            return found(PLACE);
        }
        rows.read(row, 0, heard, n);
        ear.listen(current, wind);
        return passed(i < 0 ? ear.countMissing(heard, n) : ear.missingSet(heard, n, i));
    }

    public int image(int k) {
        if (k < 0 || k > 1) {
            return BAD;
        }
        if (!current.isThere) {
            return STATE;
        }
        imageAt(k).takeOver(current);
        return 1;
    }

    public int restore(int k) {
        if (k < 0 || k > 1) {
            return BAD;
        }
        if (!imageAt(k).isThere) {
            return STATE;
        }
        current.takeOver(imageAt(k));
        return 1;
    }

    // ---- asked, in a WIND

    public int kind(int tree, int wind) {
        if (!current.trees.has(tree) || !current.winds.has(wind)) {
            return BAD;
        }
        return kindIn(tree, wind);
    }

    public int as(int tree, int wind, int kind) {
        if (!current.trees.has(tree) || !current.winds.has(wind) || kind < TREE || kind > FALLEN) {
            return BAD;
        }
        if (!isOfKind(kindIn(tree, wind), kind)) {
            return found(KIND);
        }
        return passed(tree);
    }

    public int ask(int tree, int wind, int what) {
        if (!current.trees.has(tree) || !current.winds.has(wind) || what < 0 || what > 1) {
            return BAD;
        }
        asks.begin(tree, kindIn(tree, wind), current.trees.length[tree], current.toneOf(tree));
        return what == 0 ? asks.sizeAsked() : asks.markAsked();
    }

    public int trace(int i) {
        return i >= 0 && i < asks.count ? asks.bodies[i] : NONE;
    }

    public int count(int what) {
        switch (what) {
            case 0: return rows.countThere();
            case 1: return current.trees.count;
            case 2: return current.winds.count;
            case 3: return current.toneCount;
            case 4: return current.years;
            case 5: return current.wet;
            case 6: return current.done.count;
            case 7: return reader.size;
            default: return BAD;
        }
    }

    public int status() {
        return finding;
    }

    // ---- what several of these need

    private int found(int number) {
        finding = number;
        return FINDING - number;
    }

    private int passed(int answer) {
        finding = 0;
        return answer;
    }

    private int faulted() {
        faultNumber = reader.fault;
        return FAULT_AT - reader.start;
    }

    private Wood imageAt(int k) {
        return k == 0 ? firstImage : secondImage;
    }

    private static boolean isSlack(int x) {
        return x >= 0 && x <= SLIPS_MOST;
    }

    private static boolean isApart(int t) {
        return t >= 0 && t <= APART_MOST;
    }

    private int slipsIn(Wood wood, int wind, int t) {
        ear.listen(wood, wind);
        return ear.slipsFrom(wood.tune, wood.toneCount, t);
    }

    /** The steps as a number of base 4, or -1. */
    private int cheapestSteps(int a, int b, int s, int x, int t) {
        draft.takeOver(current);
        ear.listen(current, a);
        cuts.choose(ear);
        for (int sum = 0; sum <= Cuts.SUM_MOST; sum++) {
            int steps = bestOfSum(sum, a, b, s, x, t);
            if (steps >= 0) {
                return steps;
            }
        }
        return -1;
    }

    /** Rows are tried in their own order, so that of equals the first stays. */
    private int bestOfSum(int sum, int a, int b, int s, int x, int t) {
        int best = -1;
        int mostSlips = -1;
        int end = cuts.rowsOfSteps();
        for (int steps = 0; steps < end; steps++) {
            if (Cuts.sumOf(steps) != sum || !cuts.tryOn(current, draft, steps, s) || slipsIn(draft, a, t) > x) {
                continue;
            }
            int spoilt = slipsIn(draft, b, t);
            if (spoilt > mostSlips) {
                mostSlips = spoilt;
                best = steps;
            }
        }
        return best;
    }

    private static int sharedDivisor(int above, int below) {
        int a = below;
        int b = above;
        for (int i = 0; i < 64 && b != 0; i++) {
            int rest = a % b;
            a = b;
            b = rest;
        }
        return a;
    }

    private int kindIn(int tree, int wind) {
        if (!current.trees.has(tree)) {
            return TREE;
        }
        if (current.trees.felled[tree] == 1) {
            return FALLEN;
        }
        if (current.trees.ice[tree] == 1) {
            return ICED;
        }
        if (!current.sounds(tree, wind)) {
            return MUTE;
        }
        ear.listen(current, wind);
        return (ear.buzzing() >> tree & 1) == 1 ? BUZZING : SINGING;
    }

    private static boolean isOfKind(int toldAs, int kind) {
        if (kind == TREE || kind == toldAs) {
            return true;
        }
        if (kind == MUTE) {
            return toldAs == ICED || toldAs == FALLEN;
        }
        return kind == SINGING && toldAs == BUZZING;
    }

    /** Every row's items lie in one array of ints; the lane only narrows what is put there. */
    private static final class Rows {
        static final int BYTES = 0, SHORTS = 1, INTS = 2;
        static final int ROWS = 8, ITEMS_MOST = 40;

        final boolean[] there = new boolean[ROWS];
        final int[] lanes = new int[ROWS];
        final int[] sizes = new int[ROWS];
        final int[] items = new int[ROWS * ITEMS_MOST];

        static boolean isRow(int row) {
            return row >= 0 && row < ROWS;
        }

        boolean isThere(int row) {
            return isRow(row) && there[row];
        }

        boolean areAlike(int a, int b) {
            return isThere(a) && isThere(b) && lanes[a] == lanes[b];
        }

        /** Nothing is added here, for the sum of i and n may be beyond an int. */
        boolean hasPlaces(int row, int i, int n) {
            return isThere(row) && i >= 0 && n >= 0 && i <= sizes[row] && n <= sizes[row] - i;
        }

        void make(int row, int lane, int n) {
            if (!isRow(row) || n < 0 || n > ITEMS_MOST) {
                return;
            }
            there[row] = true;
            lanes[row] = lane;
            sizes[row] = n;
            for (int i = 0; i < n; i++) {
                items[row * ITEMS_MOST + i] = 0;
            }
        }

        int put(int row, int i, int v) {
            if (!hasPlaces(row, i, 1)) {
                return 0;
            }
            int kept = lanes[row] == BYTES ? (byte) v : lanes[row] == SHORTS ? (short) v : v;
            items[row * ITEMS_MOST + i] = kept;
            return kept;
        }

        void move(int a, int i, int b, int j, int n) {
            if (hasPlaces(a, i, n) && hasPlaces(b, j, n)) {
                System.arraycopy(items, a * ITEMS_MOST + i, items, b * ITEMS_MOST + j, n);
            }
        }

        void read(int row, int i, int[] into, int n) {
            if (hasPlaces(row, i, n) && n <= into.length) {
                System.arraycopy(items, row * ITEMS_MOST + i, into, 0, n);
            }
        }

        int takeAway(int row) {
            if (!isThere(row)) {
                return 0;
            }
            there[row] = false;
            return sizes[row];
        }

        int countThere() {
            int count = 0;
            for (int row = 0; row < ROWS; row++) {
                count += there[row] ? 1 : 0;
            }
            return count;
        }
    }

    private static final class Trees {
        final int[] length = new int[TREES_MOST];
        final int[] pull = new int[TREES_MOST];
        final int[] side = new int[TREES_MOST];
        final int[] grows = new int[TREES_MOST];
        final int[] ice = new int[TREES_MOST];
        final int[] felled = new int[TREES_MOST];
        int count;

        boolean has(int tree) {
            return tree >= 0 && tree < count && tree < TREES_MOST;
        }

        void add(int itsLength, int itsPull, int itsSide, int itsGrows) {
            if (count >= TREES_MOST) {
                return;
            }
            length[count] = itsLength;
            pull[count] = itsPull;
            side[count] = itsSide;
            grows[count] = itsGrows;
            ice[count] = 0;
            felled[count] = 0;
            count++;
        }

        static int longer(int length, int by) {
            return Math.max(LENGTH_LEAST, Math.min(LENGTH_MOST, length + by));
        }

        /** What it gave in truth is what undoing takes back later. */
        int stretch(int tree, int by) {
            if (!has(tree)) {
                return 0;
            }
            int was = length[tree];
            length[tree] = longer(was, by);
            return length[tree] - was;
        }

        void growAll(int years) {
            for (int tree = 0; tree < count; tree++) {
                if (ice[tree] == 0 && felled[tree] == 0) {
                    stretch(tree, years * grows[tree]);
                }
            }
        }

        void takeOver(Trees other) {
            System.arraycopy(other.length, 0, length, 0, TREES_MOST);
            System.arraycopy(other.pull, 0, pull, 0, TREES_MOST);
            System.arraycopy(other.side, 0, side, 0, TREES_MOST);
            System.arraycopy(other.grows, 0, grows, 0, TREES_MOST);
            System.arraycopy(other.ice, 0, ice, 0, TREES_MOST);
            System.arraycopy(other.felled, 0, felled, 0, TREES_MOST);
            count = other.count;
        }
    }

    private static final class Winds {
        final int[] side = new int[WINDS_MOST];
        final int[] strength = new int[WINDS_MOST];
        final int[] odds = new int[WINDS_MOST];
        int count;

        boolean has(int wind) {
            return wind >= 0 && wind < count && wind < WINDS_MOST;
        }

        void add(int itsSide, int itsStrength, int itsOdds) {
            if (count >= WINDS_MOST) {
                return;
            }
            side[count] = itsSide;
            strength[count] = itsStrength;
            odds[count] = itsOdds;
            count++;
        }

        void takeOver(Winds other) {
            System.arraycopy(other.side, 0, side, 0, WINDS_MOST);
            System.arraycopy(other.strength, 0, strength, 0, WINDS_MOST);
            System.arraycopy(other.odds, 0, odds, 0, WINDS_MOST);
            count = other.count;
        }
    }

    /** Orders with a tree and a number each: the number told, or, of one done, what undoing needs. */
    private static final class Deeds {
        final int[] order = new int[DONE_MOST];
        final int[] tree = new int[DONE_MOST];
        final int[] number = new int[DONE_MOST];
        int count;

        void add(int itsOrder, int itsTree, int itsNumber) {
            if (count >= DONE_MOST) {
                return;
            }
            order[count] = itsOrder;
            tree[count] = itsTree;
            number[count] = itsNumber;
            count++;
        }

        void takeOver(Deeds other) {
            System.arraycopy(other.order, 0, order, 0, DONE_MOST);
            System.arraycopy(other.tree, 0, tree, 0, DONE_MOST);
            System.arraycopy(other.number, 0, number, 0, DONE_MOST);
            count = other.count;
        }
    }

    /** All that an image keeps. */
    private static final class Wood {
        final Trees trees = new Trees();
        final Winds winds = new Winds();
        final Deeds done = new Deeds();
        final int[] tune = new int[TONES_MOST];
        int toneCount;
        int years;
        int wet;
        boolean isThere;

        void beginAnew() {
            trees.count = 0;
            winds.count = 0;
            done.count = 0;
            toneCount = 0;
            years = 0;
            wet = 0;
            isThere = true;
        }

        void takeOver(Wood other) {
            trees.takeOver(other.trees);
            winds.takeOver(other.winds);
            done.takeOver(other.done);
            System.arraycopy(other.tune, 0, tune, 0, TONES_MOST);
            toneCount = other.toneCount;
            years = other.years;
            wet = other.wet;
            isThere = other.isThere;
        }

        void addTone(int tone) {
            if (toneCount < TONES_MOST) {
                tune[toneCount] = tone;
                toneCount++;
            }
        }

        static int dryTone(int pull, int length) {
            return length < 1 ? 0 : 1000 * pull / length;
        }

        int toneOf(int tree) {
            if (!trees.has(tree)) {
                return 0;
            }
            int dry = dryTone(trees.pull[tree], trees.length[tree]);
            return wet == 1 ? dry - 5 * (dry / 100) : dry;
        }

        boolean sounds(int tree, int wind) {
            if (!trees.has(tree) || !winds.has(wind)) {
                return false;
            }
            if (trees.felled[tree] == 1 || trees.ice[tree] == 1) {
                return false;
            }
            int turned = Math.abs(trees.side[tree] - winds.side[wind]);
            boolean isNear = turned <= 1 || turned == SIDES - 1;
            return isNear && winds.strength[wind] >= trees.pull[tree] / 2;
        }

        void grow(int more) {
            trees.growAll(more);
            years += more;
        }

        void carryOutAll(Deeds orders) {
            for (int i = 0; i < orders.count && i < DONE_MOST; i++) {
                carryOut(orders.order[i], orders.tree[i], orders.number[i]);
            }
        }

        private void carryOut(int order, int tree, int number) {
            if (!trees.has(tree)) {
                return;
            }
            int undoing = 0;
            switch (order) {
                case CUT:
                    undoing = trees.stretch(tree, -number);
                    break;
                case LET:
                    undoing = trees.stretch(tree, number);
                    break;
                case TURN:
                    undoing = trees.side[tree];
                    trees.side[tree] = number;
                    break;
                case ICE:
                case THAW:
                    undoing = trees.ice[tree];
                    trees.ice[tree] = order == ICE ? 1 : 0;
                    break;
                case FELL:
                    undoing = trees.felled[tree];
                    trees.felled[tree] = 1;
                    break;
                default:
                    undoing = wet;
                    wet = order == WET ? 1 : 0;
            }
            done.add(order, tree, undoing);
        }

        void takeBack() {
            int last = done.count - 1;
            if (last < 0 || last >= DONE_MOST || !trees.has(done.tree[last])) {
                return;
            }
            int tree = done.tree[last];
            int undoing = done.number[last];
            switch (done.order[last]) {
                case CUT:
                case LET:
                    trees.stretch(tree, -undoing);
                    break;
                case TURN:
                    trees.side[tree] = undoing;
                    break;
                case ICE:
                case THAW:
                    trees.ice[tree] = undoing;
                    break;
                case FELL:
                    trees.felled[tree] = undoing;
                    break;
                default:
                    wet = undoing;
            }
            done.count = last;
        }
    }

    /** Hears what sounds in a wind, and likens it to what is told. */
    private static final class Ear {
        final int[] tones = new int[TREES_MOST];
        final int[] trees = new int[TREES_MOST];
        final int[] line = new int[TREES_MOST + 1];
        int count;

        void listen(Wood wood, int wind) {
            count = 0;
            for (int tree = 0; tree < wood.trees.count && count < TREES_MOST; tree++) {
                if (wood.sounds(tree, wind)) {
                    tones[count] = wood.toneOf(tree);
                    trees[count] = tree;
                    count++;
                }
            }
        }

        /** An item of a row may be any int, so the difference is a long. */
        private static boolean areSame(int one, int other, int t) {
            return Math.abs((long) one - (long) other) <= t;
        }

        /** One line of the table serves for all: the corner is what the next place overwrote. */
        int slipsFrom(int[] tune, int size, int t) {
            if (size < 0 || size > tune.length || size >= line.length) {
                return 0;
            }
            for (int j = 0; j <= size; j++) {
                line[j] = j;
            }
            for (int i = 0; i < count; i++) {
                int corner = line[0];
                line[0] = i + 1;
                for (int j = 0; j < size; j++) {
                    int sungFor = corner + (areSame(tones[i], tune[j], t) ? 0 : 1);
                    int leftOrPut = Math.min(line[j], line[j + 1]) + 1;
                    corner = line[j + 1];
                    line[j + 1] = Math.min(sungFor, leftOrPut);
                }
            }
            return line[size];
        }

        /** How many of what was heard can be tones of the sound, both in order. */
        int sharedWith(int[] heard, int n, int t) {
            for (int j = 0; j <= count && j < line.length; j++) {
                line[j] = 0;
            }
            for (int i = 0; i < n && i < heard.length; i++) {
                int corner = 0;
                for (int j = 0; j < count; j++) {
                    int paired = areSame(heard[i], tones[j], t) ? corner + 1 : 0;
                    corner = line[j + 1];
                    line[j + 1] = Math.max(paired, Math.max(line[j], line[j + 1]));
                }
            }
            return line[count];
        }

        int buzzing() {
            int bits = 0;
            for (int i = 0; i < count; i++) {
                for (int j = 0; j < count; j++) {
                    if (tones[i] != tones[j] && areSame(tones[i], tones[j], 3)) {
                        bits |= 1 << trees[i];
                    }
                }
            }
            return bits;
        }

        int countMissing(int[] heard, int n) {
            int sets = 0;
            for (int set = 0; set < 1 << TREES_MOST; set++) {
                sets += isLeftBy(set, heard, n) ? 1 : 0;
            }
            return sets;
        }

        int missingSet(int[] heard, int n, int i) {
            int ahead = 0;
            for (int set = 0; set < 1 << TREES_MOST; set++) {
                if (isLeftBy(set, heard, n)) {
                    if (ahead == i) {
                        return set;
                    }
                    ahead++;
                }
            }
            return NONE;
        }

        /** A tree that does not sound is in no set, or one sound would be told by many sets. */
        private boolean isLeftBy(int set, int[] heard, int n) {
            int gone = 0;
            int stays = 0;
            for (int i = 0; i < count; i++) {
                if ((set >> trees[i] & 1) == 1) {
                    gone++;
                } else if (stays < n && stays < heard.length && heard[stays] == tones[i]) {
                    stays++;
                } else {
                    return false;
                }
            }
            return stays == n && gone == Integer.bitCount(set);
        }
    }

    /** The trees that may be cut, and rows of steps for them: two bits a tree, the first the highest. */
    private static final class Cuts {
        static final int CUT_MOST = 5, SUM_MOST = 3 * CUT_MOST;

        final int[] chosen = new int[CUT_MOST];
        int count;

        void choose(Ear ear) {
            count = 0;
            for (int i = 0; i < ear.count && count < CUT_MOST; i++) {
                chosen[count] = ear.trees[i];
                count++;
            }
        }

        int rowsOfSteps() {
            return 1 << 2 * count;
        }

        static int sumOf(int steps) {
            int sum = 0;
            for (int i = 0; i < CUT_MOST; i++) {
                sum += steps >> 2 * i & 3;
            }
            return sum;
        }

        /** False if a wire would become too short. */
        boolean tryOn(Wood from, Wood onto, int steps, int s) {
            for (int i = 0; i < count; i++) {
                int tree = chosen[i];
                if (!from.trees.has(tree)) {
                    return false;
                }
                int length = from.trees.length[tree] - s * (steps >> 2 * (count - 1 - i) & 3);
                if (length < LENGTH_LEAST) {
                    return false;
                }
                onto.trees.length[tree] = length;
            }
            return true;
        }
    }

    /** One ask of a tree: the bodies by their numbers, and the trace that they leave. */
    private static final class Asks {
        static final int TRACE_MOST = 16;

        final int[] bodies = new int[TRACE_MOST];
        int count;
        private int tree;
        private int toldAs;
        private int length;
        private int tone;

        void begin(int itsNumber, int itsKind, int itsLength, int itsTone) {
            count = 0;
            tree = itsNumber;
            toldAs = itsKind;
            length = itsLength;
            tone = itsTone;
        }

        private void leave(int body) {
            if (count < TRACE_MOST) {
                bodies[count] = body;
                count++;
            }
        }

        int sizeAsked() {
            switch (toldAs) {
                case SINGING: return body11();
                case BUZZING: return body12();
                case MUTE:
                case ICED: return body13();
                case FALLEN: return body14();
                default: return body10();
            }
        }

        int markAsked() {
            switch (toldAs) {
                case SINGING:
                case BUZZING: return body21();
                case ICED: return body22();
                case MUTE: return body23();
                case FALLEN: return body24();
                default: return body20();
            }
        }

        private int body10() {
            leave(10);
            return length;
        }

        /** MARK, asked anew of one that sings, can be no other body than 21. */
        private int body11() {
            leave(11);
            int lent = body10();
            return lent + body21();
        }

        private int body12() {
            leave(12);
            return -body11();
        }

        private int body13() {
            leave(13);
            return body10() - 1000;
        }

        private int body14() {
            leave(14);
            return 2 * body13();
        }

        private int body20() {
            leave(20);
            return tree;
        }

        private int body21() {
            leave(21);
            return body20() + tone;
        }

        /** SIZE, asked anew of one with ice, can be no other body than 13. */
        private int body22() {
            leave(22);
            int mute = body23();
            return mute + body13();
        }

        private int body23() {
            leave(23);
            return -body20();
        }

        private int body24() {
            leave(24);
            return body23() - 100;
        }
    }

    /** The tape, read token by token; the first fault stays, and reading stops on its token. */
    private static final class Reader {
        static final int END = 0, NAME = 1, NUMBER = 2, SIGN = 3, NO_TOKEN = 4;
        static final int MISPLACED = 1, NOT_AS_TOLD = 2, NO_ROOM = 3;
        static final int BEFORE_TREES = 0, IN_TREES = 1, IN_WINDS = 2, BEHIND_TUNE = 3;

        final byte[] tape = new byte[TAPE_MOST];
        int size;
        int start;
        int fault;
        private int at;
        private int sort;
        private int value;

        void addBytes(long w, int n) {
            for (int i = n - 1; i >= 0 && size < TAPE_MOST; i--) {
                tape[size] = (byte) (w >> 8 * i);
                size++;
            }
        }

        void readWood(Wood into) {
            into.beginAnew();
            begin();
            int stage = BEFORE_TREES;
            for (int i = 0; i == 0 || i < TAPE_MOST && isMore(); i++) {
                stage = readPart(into, stage);
            }
        }

        void readOrders(Deeds into, int treeCount) {
            into.count = 0;
            begin();
            for (int i = 0; i == 0 || i < TAPE_MOST && isMore(); i++) {
                readOrder(into, treeCount);
            }
        }

        private void begin() {
            at = 0;
            fault = 0;
            next();
        }

        private boolean isMore() {
            return fault == 0 && sort != END;
        }

        private int readPart(Wood into, int stage) {
            if (stage <= IN_TREES && isWord("tree")) {
                readTree(into.trees);
                return IN_TREES;
            }
            boolean isBehindTrees = stage == IN_TREES || stage == IN_WINDS;
            if (isBehindTrees && isWord("wind")) {
                readWind(into.winds);
                return IN_WINDS;
            }
            if (isBehindTrees && isWord("tune")) {
                readTune(into);
            } else {
                fail(MISPLACED);
            }
            return BEHIND_TUNE;
        }

        private void readTree(Trees into) {
            if (into.count >= TREES_MOST) {
                fail(NO_ROOM);
                return;
            }
            next();
            int length = takeNumber(LENGTH_LEAST, HUNG_MOST);
            int pull = takeNumber(1, PULL_MOST);
            int side = takeNumber(0, SIDES - 1);
            int grows = takeNumber(0, GROWS_MOST);
            takeSign();
            into.add(length, pull, side, grows);
        }

        private void readWind(Winds into) {
            if (into.count >= WINDS_MOST) {
                fail(NO_ROOM);
                return;
            }
            next();
            int side = takeNumber(0, SIDES - 1);
            int strength = takeNumber(1, 20);
            int odds = takeNumber(1, 99);
            takeSign();
            into.add(side, strength, odds);
        }

        private void readTune(Wood into) {
            next();
            into.addTone(takeNumber(0, 999));
            for (int i = 0; i < TAPE_MOST && fault == 0 && sort == NUMBER; i++) {
                if (into.toneCount >= TONES_MOST) {
                    fail(NO_ROOM);
                } else {
                    into.addTone(takeNumber(0, 999));
                }
            }
            takeSign();
        }

        private void readOrder(Deeds into, int treeCount) {
            int order = orderHere();
            if (order < 0) {
                fail(MISPLACED);
                return;
            }
            if (into.count >= ORDERS_MOST) {
                fail(NO_ROOM);
                return;
            }
            next();
            int tree = order == WET || order == DRY ? 0 : takeNumber(0, treeCount - 1);
            int number = 0;
            if (order == CUT || order == LET) {
                number = takeNumber(1, 89);
            } else if (order == TURN) {
                number = takeNumber(0, SIDES - 1);
            }
            takeSign();
            into.add(order, tree, number);
        }

        private int orderHere() {
            for (int order = CUT; order <= DRY; order++) {
                if (isWord(wordOf(order))) {
                    return order;
                }
            }
            return -1;
        }

        private static String wordOf(int order) {
            switch (order) {
                case CUT: return "cut";
                case LET: return "let";
                case TURN: return "turn";
                case ICE: return "ice";
                case THAW: return "thaw";
                case FELL: return "fell";
                case WET: return "wet";
                default: return "dry";
            }
        }

        private void fail(int number) {
            if (fault == 0) {
                fault = number;
            }
        }

        private int takeNumber(int least, int most) {
            if (fault != 0) {
                return least;
            }
            if (sort != NUMBER) {
                fail(MISPLACED);
                return least;
            }
            if (value < least || value > most) {
                fail(NOT_AS_TOLD);
                return least;
            }
            int taken = value;
            next();
            return taken;
        }

        private void takeSign() {
            if (fault != 0) {
                return;
            }
            if (sort != SIGN) {
                fail(MISPLACED);
                return;
            }
            next();
        }

        private boolean isWord(String word) {
            if (sort != NAME || at - start != word.length()) {
                return false;
            }
            for (int i = 0; i < word.length(); i++) {
                if (byteAt(start + i) != word.charAt(i)) {
                    return false;
                }
            }
            return true;
        }

        private void next() {
            for (int i = 0; i < TAPE_MOST && isBlank(byteAt(at)); i++) {
                at++;
            }
            start = at;
            value = 0;
            if (at >= size) {
                sort = END;
            } else if (isLetter(byteAt(at))) {
                sort = NAME;
                for (int i = 0; i < TAPE_MOST && isLetter(byteAt(at)); i++) {
                    at++;
                }
            } else if (isFigure(byteAt(at))) {
                for (int i = 0; i < TAPE_MOST && isFigure(byteAt(at)); i++) {
                    value = 10 * value + byteAt(at) - '0';
                    at++;
                }
                sort = at - start > 3 ? NO_TOKEN : NUMBER;
            } else {
                sort = byteAt(at) == ';' ? SIGN : NO_TOKEN;
                at++;
            }
        }

        /** Behind the end stands a byte that belongs to no token. */
        private int byteAt(int place) {
            return place >= 0 && place < size && place < TAPE_MOST ? tape[place] : -1;
        }

        private static boolean isBlank(int sign) {
            return sign == ' ' || sign == '\n';
        }

        private static boolean isLetter(int sign) {
            return sign >= 'a' && sign <= 'z';
        }

        private static boolean isFigure(int sign) {
            return sign >= '0' && sign <= '9';
        }
    }
}
