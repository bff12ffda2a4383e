/** Promises 1 to 5, 28, 29, edge by edge: a method for each sentence of the document that names one. */
public final class RowEdgesTest {
    private static final Due due = new Due("RowEdgesTest");
    private static final int MIN = Integer.MIN_VALUE, MAX = Integer.MAX_VALUE;
    private static final int[] NO_ROWS = {MIN, -1, 8, MAX};
    private static final String TONE_100 = "tree 10 1 0 0; wind 0 20 1;";

    public static void main(String[] args) {
        noWood();
        allIsNone();
        usedFor512Calls();
        rowsAreMissing();
        rowsTakeTheirSizes();
        itemsAreZero();
        inPlaceOfWhatIsThere();
        rowBad();
        rowSize();
        lowestBits();
        setBad();
        setNull();
        setPlace();
        copiedAsTheyWere();
        copyOfNone();
        copyOfAll();
        copyBad();
        copyNull();
        copyStore();
        copyPlace();
        copyWraps();
        droppedRows();
        dropBad();
        dropNull();
        countBad();
        countEdges();
        statusOfTheLatest();
        statusOfNone();
        due.end();
    }

    private static void noWood() {
        due.says("1: No WOOD.");
        WindHarp x = new WindHarp();
        x.row(0, 2, 5);
        due.is("orders()", x.orders(), Due.STATE);
        due.is("undo()", x.undo(), Due.STATE);
        due.is("go(1)", x.go(1), Due.STATE);
        due.is("plays(0, 0, 0)", x.plays(0, 0, 0), Due.STATE);
        due.is("image(0)", x.image(0), Due.STATE);
        due.is("image(1)", x.image(1), Due.STATE);
        due.is("restore(0)", x.restore(0), Due.STATE);
        due.is("restore(1)", x.restore(1), Due.STATE);
        due.is("tree(0, 0)", x.tree(0, 0), Due.BAD);
        due.is("sound(0, 0)", x.sound(0, 0), Due.BAD);
        due.is("slips(0, 0)", x.slips(0, 0), Due.BAD);
        due.is("cheapest(0, 0, 1, 0, 0, 0)", x.cheapest(0, 0, 1, 0, 0, 0), Due.BAD);
        due.is("tuned(0, 0, 0)", x.tuned(0, 0, 0), Due.BAD);
        due.is("buzz(0)", x.buzz(0), Due.BAD);
        due.is("birds(0, 0, 0, 1, 0)", x.birds(0, 0, 0, 1, 0), Due.BAD);
        due.is("missing(0, 0, 0, -1)", x.missing(0, 0, 0, -1), Due.BAD);
        due.is("kind(0, 0)", x.kind(0, 0), Due.BAD);
        due.is("as(0, 0, 0)", x.as(0, 0, 0), Due.BAD);
        due.is("ask(0, 0, 0)", x.ask(0, 0, 0), Due.BAD);
    }

    private static void allIsNone() {
        due.says("1: a new object");
        WindHarp x = new WindHarp();
        for (int what = 0; what < 8; what++) {
            due.is("count(" + what + ")", x.count(what), 0);
        }
        due.is("fault()", x.fault(), 0);
        due.is("status()", x.status(), 0);
        due.is("trace(0)", x.trace(0), Due.NONE);
        due.is("the tape holds no text", x.wood(), Due.faultAt(0));
        WindHarp y = new WindHarp();
        due.is("one object's fault is not another's", y.fault(), 0);
    }

    private static void usedFor512Calls() {
        due.says("An object is used for at most 512 calls");
        WindHarp x = Due.harp(TONE_100);
        int calls = 5;
        for (int year = 1; calls < 510; calls += 2, year++) {
            due.is("go(60)", x.go(60), 60 * year);
            due.is("image(0)", x.image(0), 1);
        }
        due.is("the last call", x.tree(0, 0), 10);
    }

    private static void rowsAreMissing() {
        due.says("ROWS 0 .. 7 are missing (at first)");
        WindHarp x = new WindHarp();
        for (int row = 0; row < 8; row++) {
            due.is("set of " + row, x.set(row, 0, 0), Due.NULL);
            due.is("copy of " + row, x.copy(row, 0, row, 0, 0), Due.NULL);
            due.is("drop of " + row, x.drop(row), Due.NULL);
        }
        for (int row = 0; row < 8; row++) {
            due.is("row of " + row, x.row(row, 0, row), row);
            due.is("count(0)", x.count(0), row + 1);
        }
    }

    private static void rowsTakeTheirSizes() {
        due.says("2: a LANE (0 bytes, 1 shorts, 2 ints) and 0 to 40 ITEMS");
        int[] sizes = {0, 1, 39, 40};
        WindHarp x = new WindHarp();
        for (int lane = 0; lane < 3; lane++) {
            for (int n : sizes) {
                due.is("row(7, " + lane + ", " + n + ")", x.row(7, lane, n), n);
                due.is("behind the last", x.set(7, n, 1), Due.PLACE);
                due.is("the last", x.set(7, n - 1, 1), n > 0 ? 1 : Due.PLACE);
                due.is("how many", x.drop(7), n);
            }
        }
    }

    private static void itemsAreZero() {
        due.says("2: ITEMS, 0 at first");
        WindHarp x = Due.harp("tree 99 1 0 0; wind 0 20 1;");
        for (int lane = 0; lane < 3; lane++) {
            x.row(lane, lane, 40);
            due.is("ten from 10", x.birds(0, lane, 0, 1, 10), 0);
            due.is("not nine from 10", x.birds(0, lane, 0, 1, 9), 1);
            due.is("the last is so", x.birds(0, lane, 39, 1, 10), 0);
            due.is("the last is so", x.birds(0, lane, 39, 1, 9), 1);
        }
    }

    private static void inPlaceOfWhatIsThere() {
        due.says("2: in place of what is there");
        WindHarp x = Due.harp(TONE_100);
        Due.items(x, 3, 0, 11, 12, 13, 14);
        x.row(3, 2, 2);
        due.is("count(0)", x.count(0), 1);
        due.is("shorter", x.set(3, 2, 1), Due.PLACE);
        due.is("another lane", x.set(3, 0, 70000), 70000);
        x.row(3, 0, 4);
        for (int i = 0; i < 4; i++) {
            due.is("longer again, item " + i, Due.item(x, 3, i), 0);
        }
        x.set(3, 0, 8);
        x.set(3, 3, 9);
        due.is("set, item 0", Due.item(x, 3, 0), 8);
        x.row(3, 0, 4);
        due.is("just as it was, item 0", Due.item(x, 3, 0), 0);
        due.is("just as it was, item 3", Due.item(x, 3, 3), 0);
        Due.items(x, 2, 0, 21, 22);
        x.row(3, 0, 40);
        x.row(1, 0, 40);
        due.is("the row ahead stays", Due.item(x, 2, 1), 22);
        due.is("drop(2)", x.drop(2), 2);
    }

    private static void rowBad() {
        due.says("2: BAD: ROW, LANE, n above 40");
        WindHarp x = new WindHarp();
        for (int row : NO_ROWS) {
            due.is("row(" + row + ", 0, 1)", x.row(row, 0, 1), Due.BAD);
            due.is("row(" + row + ", 0, -1)", x.row(row, 0, -1), Due.BAD);
        }
        for (int lane : new int[] {MIN, -1, 3, MAX}) {
            due.is("row(0, " + lane + ", 1)", x.row(0, lane, 1), Due.BAD);
            due.is("row(0, " + lane + ", -1)", x.row(0, lane, -1), Due.BAD);
        }
        due.is("row(0, 0, 41)", x.row(0, 0, 41), Due.BAD);
        due.is("row(0, 0, MAX)", x.row(0, 0, MAX), Due.BAD);
        due.is("count(0)", x.count(0), 0);
        due.is("status()", x.status(), 0);
        Twins.unchanged(due, "row(0, 0, 41)", y -> y.row(0, 0, 41), Due.BAD);
        Twins.unchanged(due, "row(0, 3, 2)", y -> y.row(0, 3, 2), Due.BAD);
        Twins.unchanged(due, "row(8, 0, 2)", y -> y.row(8, 0, 2), Due.BAD);
        Twins.unchanged(due, "row(-1, 0, 2)", y -> y.row(-1, 0, 2), Due.BAD);
    }

    private static void rowSize() {
        due.says("2: SIZE (fewer than none)");
        WindHarp x = new WindHarp();
        for (int n : new int[] {-1, -40, MIN}) {
            due.is("row(7, 2, " + n + ")", x.row(7, 2, n), Due.SIZE);
            due.is("status()", x.status(), 4);
        }
        due.is("none is not fewer", x.row(7, 2, 0), 0);
        due.is("status()", x.status(), 0);
        Twins.unchanged(due, "row(0, 0, -1)", y -> y.row(0, 0, -1), Due.SIZE);
        Twins.unchanged(due, "row(5, 0, MIN)", y -> y.row(5, 0, MIN), Due.SIZE);
    }

    private static void lowestBits() {
        due.says("3: its lowest bits, as many as the LANE has (read with their sign)");
        WindHarp x = new WindHarp();
        x.row(0, 0, 1);
        x.row(1, 1, 1);
        x.row(2, 2, 1);
        int[][] told = {
            {0, 0, 0}, {127, 127, 127}, {128, -128, 128}, {129, -127, 129}, {255, -1, 255}, {256, 0, 256},
            {-128, -128, -128}, {-129, 127, -129}, {-256, 0, -256}, {32767, -1, 32767}, {32768, 0, -32768},
            {32769, 1, -32767}, {65535, -1, -1}, {65536, 0, 0}, {-32768, 0, -32768}, {-32769, -1, 32767},
            {MAX, -1, -1}, {MIN, 0, 0}, {MIN + 128, -128, 128}, {MAX - 127, -128, -128},
        };
        for (int[] one : told) {
            due.is("byte " + one[0], x.set(0, 0, one[0]), one[1]);
            due.is("short " + one[0], x.set(1, 0, one[0]), one[2]);
            due.is("int " + one[0], x.set(2, 0, one[0]), one[0]);
        }
        WindHarp y = Due.harp(TONE_100);
        y.row(0, 0, 1);
        y.set(0, 0, 256 + 77);
        due.is("what it is then", Due.item(y, 0, 0), 77);
        y.row(0, 1, 1);
        y.set(0, 0, 3 * 65536 + 78);
        due.is("what it is then", Due.item(y, 0, 0), 78);
    }

    private static void setBad() {
        due.says("3: BAD: ROW");
        WindHarp x = new WindHarp();
        for (int row : NO_ROWS) {
            due.is("set(" + row + ", 0, 0)", x.set(row, 0, 0), Due.BAD);
            due.is("set(" + row + ", -1, 0)", x.set(row, -1, 0), Due.BAD);
        }
        due.is("status()", x.status(), 0);
        Twins.unchanged(due, "set(-1, 0, 5)", y -> y.set(-1, 0, 5), Due.BAD);
        Twins.unchanged(due, "set(8, 0, 5)", y -> y.set(8, 0, 5), Due.BAD);
    }

    private static void setNull() {
        due.says("3: NULL, ahead of PLACE");
        Twins.unchanged(due, "set(7, 0, 5)", x -> x.set(7, 0, 5), Due.NULL);
        Twins.unchanged(due, "set(7, -1, 5)", x -> x.set(7, -1, 5), Due.NULL);
    }

    private static void setPlace() {
        due.says("3: PLACE (no such place of a ROW)");
        Twins.unchanged(due, "set(0, -1, 5)", x -> x.set(0, -1, 5), Due.PLACE);
        Twins.unchanged(due, "set(0, 3, 5)", x -> x.set(0, 3, 5), Due.PLACE);
        Twins.unchanged(due, "set(0, 40, 5)", x -> x.set(0, 40, 5), Due.PLACE);
        Twins.unchanged(due, "set(0, MAX, 5)", x -> x.set(0, MAX, 5), Due.PLACE);
        Twins.unchanged(due, "set(0, MIN, 5)", x -> x.set(0, MIN, 5), Due.PLACE);
        Twins.unchanged(due, "set of an empty row", x -> x.set(2, 0, 5), Due.PLACE);
        WindHarp x = new WindHarp();
        x.row(0, 0, 3);
        due.is("set(0, 0, 5)", x.set(0, 0, 5), 5);
        due.is("set(0, 2, 5)", x.set(0, 2, 5), 5);
    }

    private static void rowIs(String what, WindHarp x, int row, int... items) {
        for (int i = 0; i < items.length; i++) {
            due.is(what + " item " + i, Due.item(x, row, i), items[i]);
        }
        due.is(what + " ends", x.set(row, items.length, 0), Due.PLACE);
    }

    private static void copiedAsTheyWere() {
        due.says("4: n ITEMS come to b, as they were ahead");
        WindHarp x = Due.harp(TONE_100);
        Due.items(x, 0, 0, 1, 2, 3, 4, 5);
        due.is("upwards", x.copy(0, 0, 0, 2, 3), 3);
        rowIs("upwards", x, 0, 1, 2, 1, 2, 3);
        Due.items(x, 0, 0, 1, 2, 3, 4, 5);
        due.is("by one upwards", x.copy(0, 0, 0, 1, 4), 4);
        rowIs("by one upwards", x, 0, 1, 1, 2, 3, 4);
        Due.items(x, 0, 0, 1, 2, 3, 4, 5);
        due.is("by one downwards", x.copy(0, 1, 0, 0, 4), 4);
        rowIs("by one downwards", x, 0, 2, 3, 4, 5, 5);
        due.is("onto itself", x.copy(0, 0, 0, 0, 5), 5);
        rowIs("onto itself", x, 0, 2, 3, 4, 5, 5);
        WindHarp y = Due.harp(TONE_100);
        Due.items(y, 6, 1, 1, 2, 3);
        Due.items(y, 7, 1, 9, 9, 9, 9);
        due.is("between two", y.copy(6, 1, 7, 1, 2), 2);
        rowIs("b", y, 7, 9, 2, 3, 9);
        rowIs("a", y, 6, 1, 2, 3);
    }

    private static void copyOfNone() {
        due.says("4: n of 0, at the ends");
        WindHarp x = Due.harp(TONE_100);
        Due.items(x, 0, 0, 1, 2);
        x.row(1, 0, 0);
        due.is("of an empty row", x.copy(1, 0, 1, 0, 0), 0);
        due.is("from a's end", x.copy(0, 2, 1, 0, 0), 0);
        due.is("to b's end", x.copy(1, 0, 0, 2, 0), 0);
        due.is("status()", x.status(), 0);
        rowIs("nothing comes", x, 0, 1, 2);
        due.is("one behind a's end", x.copy(0, 3, 1, 0, 0), Due.PLACE);
        due.is("one behind b's end", x.copy(0, 0, 1, 1, 0), Due.PLACE);
    }

    private static void copyOfAll() {
        due.says("4: n of 40");
        WindHarp x = Due.harp(TONE_100);
        x.row(0, 2, 40);
        x.row(1, 2, 40);
        x.set(0, 0, 31);
        x.set(0, 39, 32);
        due.is("copy(0, 0, 1, 0, 40)", x.copy(0, 0, 1, 0, 40), 40);
        due.is("the first", Due.item(x, 1, 0), 31);
        due.is("the last", Due.item(x, 1, 39), 32);
        due.is("copy(0, 0, 1, 0, 41)", x.copy(0, 0, 1, 0, 41), Due.PLACE);
        due.is("copy(0, 39, 1, 0, 1)", x.copy(0, 39, 1, 0, 1), 1);
        due.is("the last comes first", Due.item(x, 1, 0), 32);
    }

    private static void copyBad() {
        due.says("4: BAD: ROWS");
        WindHarp x = new WindHarp();
        x.row(0, 0, 4);
        for (int row : NO_ROWS) {
            due.is("a " + row, x.copy(row, 0, 0, 0, 1), Due.BAD);
            due.is("b " + row, x.copy(0, 0, row, 0, 1), Due.BAD);
            due.is("a " + row + ", b missing", x.copy(row, 0, 1, 0, 1), Due.BAD);
            due.is("a missing, b " + row, x.copy(1, 0, row, 0, 1), Due.BAD);
            due.is("a " + row + ", no place", x.copy(row, -1, 0, -1, -1), Due.BAD);
        }
        due.is("status()", x.status(), 0);
        Twins.unchanged(due, "copy(-1, 0, 0, 0, 1)", y -> y.copy(-1, 0, 0, 0, 1), Due.BAD);
        Twins.unchanged(due, "copy(0, 0, 8, 0, 1)", y -> y.copy(0, 0, 8, 0, 1), Due.BAD);
    }

    private static void copyNull() {
        due.says("4: NULL, ahead of STORE and PLACE");
        Twins.unchanged(due, "a missing", x -> x.copy(7, 0, 0, 0, 1), Due.NULL);
        Twins.unchanged(due, "b missing", x -> x.copy(0, 0, 7, 0, 1), Due.NULL);
        Twins.unchanged(due, "b missing, none to come", x -> x.copy(0, 0, 7, 0, 0), Due.NULL);
        Twins.unchanged(due, "both missing, no place", x -> x.copy(7, -1, 6, 99, -1), Due.NULL);
        Twins.unchanged(due, "a missing, of another lane", x -> x.copy(7, 0, 1, 0, 1), Due.NULL);
    }

    private static void copyStore() {
        due.says("4: STORE (ROWS of two LANES), ahead of PLACE");
        Twins.unchanged(due, "ints to bytes", x -> x.copy(0, 0, 1, 0, 1), Due.STORE);
        Twins.unchanged(due, "bytes to ints", x -> x.copy(1, 0, 0, 0, 1), Due.STORE);
        Twins.unchanged(due, "none to come", x -> x.copy(0, 0, 2, 0, 0), Due.STORE);
        Twins.unchanged(due, "no place", x -> x.copy(0, -1, 2, 99, -1), Due.STORE);
        Twins.unchanged(due, "bytes to shorts", x -> x.copy(1, 0, 2, 0, 0), Due.STORE);
    }

    private static void copyPlace() {
        due.says("4: PLACE (i, j, n below 0, or beyond an end)");
        Twins.unchanged(due, "i -1", x -> x.copy(0, -1, 0, 0, 1), Due.PLACE);
        Twins.unchanged(due, "j -1", x -> x.copy(0, 0, 0, -1, 1), Due.PLACE);
        Twins.unchanged(due, "n -1", x -> x.copy(0, 1, 0, 1, -1), Due.PLACE);
        Twins.unchanged(due, "i -1, none to come", x -> x.copy(0, -1, 0, 0, 0), Due.PLACE);
        Twins.unchanged(due, "j -1, none to come", x -> x.copy(0, 0, 0, -1, 0), Due.PLACE);
        Twins.unchanged(due, "beyond a's end", x -> x.copy(0, 1, 0, 0, 3), Due.PLACE);
        Twins.unchanged(due, "beyond b's end", x -> x.copy(0, 0, 0, 1, 3), Due.PLACE);
        Twins.unchanged(due, "beyond both ends", x -> x.copy(0, 0, 0, 0, 4), Due.PLACE);
        Twins.unchanged(due, "i at the end", x -> x.copy(0, 3, 0, 0, 1), Due.PLACE);
        Twins.unchanged(due, "j at the end", x -> x.copy(0, 0, 0, 3, 1), Due.PLACE);
    }

    private static void copyWraps() {
        due.says("4: beyond an end, where i + n is beyond an int");
        Twins.unchanged(due, "i MAX, n 1", x -> x.copy(0, MAX, 0, 0, 1), Due.PLACE);
        Twins.unchanged(due, "j MAX, n 1", x -> x.copy(0, 0, 0, MAX, 1), Due.PLACE);
        Twins.unchanged(due, "n MAX", x -> x.copy(0, 0, 0, 0, MAX), Due.PLACE);
        Twins.unchanged(due, "i 1, n MAX", x -> x.copy(0, 1, 0, 0, MAX), Due.PLACE);
        Twins.unchanged(due, "j 1, n MAX", x -> x.copy(0, 0, 0, 1, MAX), Due.PLACE);
        Twins.unchanged(due, "i MAX, j MAX, n 2", x -> x.copy(0, MAX, 0, MAX, 2), Due.PLACE);
        Twins.unchanged(due, "i MIN", x -> x.copy(0, MIN, 0, 0, 1), Due.PLACE);
        Twins.unchanged(due, "j MIN", x -> x.copy(0, 0, 0, MIN, 1), Due.PLACE);
        Twins.unchanged(due, "n MIN", x -> x.copy(0, 0, 0, 0, MIN), Due.PLACE);
        Twins.unchanged(due, "i MIN, n MIN", x -> x.copy(0, MIN, 0, 0, MIN), Due.PLACE);
    }

    private static void droppedRows() {
        due.says("5: A ROW is missing from now on: how many ITEMS it had");
        WindHarp x = Due.harp(TONE_100);
        x.row(0, 0, 40);
        x.row(7, 2, 0);
        due.is("forty", x.drop(0), 40);
        due.is("count(0)", x.count(0), 1);
        due.is("none", x.drop(7), 0);
        due.is("count(0)", x.count(0), 0);
        due.is("status()", x.status(), 0);
        due.is("set of it", x.set(0, 0, 0), Due.NULL);
        due.is("copy of it", x.copy(0, 0, 0, 0, 0), Due.NULL);
        due.is("birds of it", x.birds(0, 0, 0, 1, 0), Due.NULL);
        due.is("missing of it", x.missing(0, 0, 0, 0), Due.NULL);
        due.is("drop of it", x.drop(0), Due.NULL);
        due.is("row of it", x.row(0, 0, 3), 3);
        due.is("drop of it", x.drop(0), 3);
    }

    private static void dropBad() {
        due.says("5: BAD");
        for (int row : NO_ROWS) {
            Twins.unchanged(due, "drop(" + row + ")", x -> x.drop(row), Due.BAD);
        }
    }

    private static void dropNull() {
        due.says("5: NULL");
        Twins.unchanged(due, "drop(7)", x -> x.drop(7), Due.NULL);
        Twins.unchanged(due, "drop(3)", x -> x.drop(3), Due.NULL);
    }

    private static void countBad() {
        due.says("28: BAD");
        for (int what : new int[] {MIN, -1, 8, MAX}) {
            Twins.unchanged(due, "count(" + what + ")", x -> x.count(what), Due.BAD);
        }
    }

    private static void countEdges() {
        due.says("28: How many");
        WindHarp x = Due.harp("tree 99 1 0 0;".repeat(12) + "wind 0 1 9;".repeat(6) + "tune 0 1 2 3 4 5 6 7 8 9;");
        for (int row = 0; row < 8; row++) {
            x.row(row, 0, 0);
        }
        for (int i = 0; i < 5; i++) {
            Due.orders(x, "wet;".repeat(12));
        }
        x.go(60);
        x.go(60);
        for (int i = 0; i < 50; i++) {
            x.feed(0, 8);
        }
        int[] most = {8, 12, 6, 10, 120, 1, 60, 400};
        for (int what = 0; what < 8; what++) {
            due.is("count(" + what + ")", x.count(what), most[what]);
        }
    }

    private static void statusOfTheLatest() {
        due.says("29: the latest call with a ROW, or as(), that was not BAD, STATE, FULL: the number of its FINDING");
        WindHarp x = Due.harp("tree 10 1 0 0; wind 0 20 1;");
        int[] told = new int[12];
        x.as(0, 0, 5);
        told[0] = x.status();
        x.row(0, 0, 2);
        told[1] = x.status();
        x.set(0, 2, 0);
        told[2] = x.status();
        x.set(0, 1, 0);
        told[3] = x.status();
        x.copy(0, 0, 1, 0, 1);
        told[4] = x.status();
        x.row(1, 1, -1);
        told[5] = x.status();
        x.row(1, 1, 1);
        x.copy(0, 0, 1, 0, 1);
        told[6] = x.status();
        x.copy(0, 0, 0, 0, 2);
        told[7] = x.status();
        x.birds(0, 0, 1, 2, 0);
        told[8] = x.status();
        x.missing(0, 0, 2, 0);
        told[9] = x.status();
        x.missing(0, 7, 2, 0);
        told[10] = x.status();
        x.drop(0);
        told[11] = x.status();
        due.all("status()", told, 3, 0, 2, 0, 1, 4, 5, 0, 2, 0, 1, 0);
    }

    /** BAD of the calls that have findings, and all that comes of the others, leaves it. */
    private static void statusOfNone() {
        due.says("29: 0: it had none, or there was none");
        WindHarp x = new WindHarp();
        x.row(8, 0, 0);
        x.set(8, 0, 0);
        x.copy(0, 0, 8, 0, 0);
        x.drop(8);
        x.as(0, 0, 0);
        x.birds(0, 0, 0, 1, 0);
        x.missing(0, 0, 0, 0);
        x.wood();
        x.orders();
        x.go(1);
        due.is("there was none", x.status(), 0);
        x.drop(0);
        x.row(0, 0, 41);
        x.feed(0, 9);
        x.undo();
        x.image(0);
        due.is("the finding stays behind BAD and STATE", x.status(), 1);
        for (int i = 0; i < 50; i++) {
            x.feed(0, 8);
        }
        due.is("feed()", x.feed(0, 1), Due.FULL);
        due.is("the finding stays behind FULL", x.status(), 1);
        x.row(0, 0, 40);
        due.is("it had none", x.status(), 0);
    }
}
