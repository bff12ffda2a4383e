/** Promises 1 to 5, 28 and 29: rows and what status() tells of them. */
public final class RowsTest {
    private static final Due due = new Due("RowsTest");

    public static void main(String[] args) {
        aNewObject();
        rowMakes();
        rowRefuses();
        setNarrows();
        setRefuses();
        copyMoves();
        copyRefuses();
        dropTakesAway();
        statusStays();
        due.end();
    }

    private static void aNewObject() {
        WindHarp x = new WindHarp();
        for (int what = 0; what < 8; what++) {
            due.is("count(" + what + ") of a new object", x.count(what), 0);
        }
        due.is("count(-1)", x.count(-1), Due.BAD);
        due.is("count(8)", x.count(8), Due.BAD);
        due.is("status() of a new object", x.status(), 0);
        due.is("fault() of a new object", x.fault(), 0);
        for (int row = 0; row < 8; row++) {
            due.is("drop of a row at first", x.drop(row), Due.NULL);
        }
        due.is("trace(0) of a new object", x.trace(0), Due.NONE);
    }

    private static void rowMakes() {
        WindHarp x = new WindHarp();
        due.is("row(0, 0, 0)", x.row(0, 0, 0), 0);
        due.is("row(7, 2, 40)", x.row(7, 2, 40), 40);
        due.is("count(0)", x.count(0), 2);
        due.is("set(7, 39, 5)", x.set(7, 39, 5), 5);
        due.is("set(0, 0, 5)", x.set(0, 0, 5), Due.PLACE);
        due.is("row(7, 2, 40) anew", x.row(7, 2, 40), 40);
        Due.wood(x, "tree 10 20 0 0; wind 0 20 1;");
        due.is("items are 0 at first", x.birds(0, 7, 39, 1, 0), 1);
        x.set(7, 0, 2000);
        due.is("the row answers a tone", x.missing(0, 7, 1, -1), 1);
        x.row(7, 2, 3);
        due.is("an item made anew is 0", x.missing(0, 7, 1, -1), 0);
        due.is("set(7, 3, 1) beyond the new end", x.set(7, 3, 1), Due.PLACE);
        due.is("count(0) still", x.count(0), 2);
    }

    private static void rowRefuses() {
        WindHarp x = new WindHarp();
        due.is("row(-1, 0, 1)", x.row(-1, 0, 1), Due.BAD);
        due.is("row(8, 0, 1)", x.row(8, 0, 1), Due.BAD);
        due.is("row(0, -1, 1)", x.row(0, -1, 1), Due.BAD);
        due.is("row(0, 3, 1)", x.row(0, 3, 1), Due.BAD);
        due.is("row(0, 0, 41)", x.row(0, 0, 41), Due.BAD);
        due.is("row(0, 0, max)", x.row(0, 0, Integer.MAX_VALUE), Due.BAD);
        due.is("row(0, 3, -1)", x.row(0, 3, -1), Due.BAD);
        due.is("status() behind BAD", x.status(), 0);
        due.is("row(0, 0, -1)", x.row(0, 0, -1), Due.SIZE);
        due.is("status() behind SIZE", x.status(), 4);
        due.is("row(0, 0, min)", x.row(0, 0, Integer.MIN_VALUE), Due.SIZE);
        due.is("count(0)", x.count(0), 0);
        x.row(0, 1, 2);
        due.is("row(0, 0, -1) on a row", x.row(0, 0, -1), Due.SIZE);
        due.is("the row stays", x.set(0, 1, 300), 300);
    }

    private static void setNarrows() {
        WindHarp x = new WindHarp();
        x.row(0, 0, 1);
        x.row(1, 1, 1);
        x.row(2, 2, 1);
        int[] values = {0, 1, -1, 127, 128, 255, 256, -128, -129, 32767, 32768, 65535, 65536, -32769,
            Integer.MAX_VALUE, Integer.MIN_VALUE};
        for (int v : values) {
            due.is("byte " + v, x.set(0, 0, v), (byte) v);
            due.is("short " + v, x.set(1, 0, v), (short) v);
            due.is("int " + v, x.set(2, 0, v), v);
        }
    }

    private static void setRefuses() {
        WindHarp x = new WindHarp();
        due.is("set(-1, 0, 0)", x.set(-1, 0, 0), Due.BAD);
        due.is("set(8, 0, 0)", x.set(8, 0, 0), Due.BAD);
        due.is("set(0, -1, 0)", x.set(0, -1, 0), Due.NULL);
        due.is("status()", x.status(), 1);
        x.row(0, 0, 3);
        due.is("set(0, -1, 0)", x.set(0, -1, 0), Due.PLACE);
        due.is("status()", x.status(), 2);
        due.is("set(0, 3, 0)", x.set(0, 3, 0), Due.PLACE);
        due.is("set(0, max, 0)", x.set(0, Integer.MAX_VALUE, 0), Due.PLACE);
        due.is("set(0, min, 0)", x.set(0, Integer.MIN_VALUE, 0), Due.PLACE);
        due.is("set(0, 2, 9)", x.set(0, 2, 9), 9);
        due.is("status()", x.status(), 0);
    }

    /** Items are read back as what a wind's sound is likened to: one item is left if it is no tone. */
    private static void itemsAre(String what, WindHarp x, int row, int... items) {
        for (int i = 0; i < items.length; i++) {
            boolean isTone = items[i] == 2000;
            due.is(what + " item " + i, x.birds(0, row, i, 1, 0), isTone ? 0 : 1);
        }
        due.is(what + " ends there", x.set(row, items.length, 0), Due.PLACE);
    }

    private static void copyMoves() {
        WindHarp x = Due.harp("tree 10 20 0 0; wind 0 20 1;");
        Due.items(x, 0, 1, 2000, 1, 2000, 3, 4);
        Due.items(x, 1, 1, 0, 0, 0, 0);
        due.is("copy(0, 0, 1, 1, 3)", x.copy(0, 0, 1, 1, 3), 3);
        itemsAre("copied", x, 1, 0, 2000, 1, 2000);
        due.is("copy onto itself, upwards", x.copy(0, 0, 0, 1, 4), 4);
        itemsAre("moved up", x, 0, 2000, 2000, 1, 2000, 3);
        due.is("copy onto itself, downwards", x.copy(0, 2, 0, 0, 3), 3);
        itemsAre("moved down", x, 0, 1, 2000, 3, 2000, 3);
        due.is("copy of none at the ends", x.copy(0, 5, 1, 4, 0), 0);
        due.is("copy of all", x.copy(1, 0, 0, 0, 4), 4);
        due.is("status()", x.status(), 0);
        itemsAre("all", x, 0, 0, 2000, 1, 2000, 3);
    }

    private static void copyRefuses() {
        WindHarp x = new WindHarp();
        x.row(0, 0, 4);
        x.row(1, 0, 2);
        x.row(2, 1, 4);
        int max = Integer.MAX_VALUE;
        due.is("copy(-1, ..)", x.copy(-1, 0, 0, 0, 0), Due.BAD);
        due.is("copy(8, ..)", x.copy(8, 0, 0, 0, 0), Due.BAD);
        due.is("copy(.., -1)", x.copy(0, 0, -1, 0, 0), Due.BAD);
        due.is("copy(.., 8)", x.copy(3, 0, 8, 0, 0), Due.BAD);
        due.is("status()", x.status(), 0);
        due.is("copy from a missing one", x.copy(3, -1, 0, 0, 0), Due.NULL);
        due.is("copy to a missing one", x.copy(0, 0, 3, 0, -1), Due.NULL);
        due.is("status()", x.status(), 1);
        due.is("copy of two lanes", x.copy(0, 0, 2, 0, 1), Due.STORE);
        due.is("status()", x.status(), 5);
        due.is("copy of two lanes beyond an end", x.copy(0, -1, 2, 9, -1), Due.STORE);
        due.is("copy i below 0", x.copy(0, -1, 1, 0, 1), Due.PLACE);
        due.is("status()", x.status(), 2);
        due.is("copy j below 0", x.copy(0, 0, 1, -1, 1), Due.PLACE);
        due.is("copy n below 0", x.copy(0, 0, 1, 0, -1), Due.PLACE);
        due.is("copy beyond a's end", x.copy(0, 3, 1, 0, 2), Due.PLACE);
        due.is("copy beyond b's end", x.copy(0, 0, 1, 1, 2), Due.PLACE);
        due.is("copy of none beyond a's end", x.copy(0, 5, 1, 0, 0), Due.PLACE);
        due.is("copy of none beyond b's end", x.copy(0, 0, 1, 3, 0), Due.PLACE);
        due.is("copy i + n wraps", x.copy(0, max, 1, 0, max), Due.PLACE);
        due.is("copy 1 + max wraps", x.copy(0, 1, 1, 1, max), Due.PLACE);
        due.is("copy j + n wraps", x.copy(0, 0, 1, max, 1), Due.PLACE);
        due.is("copy min", x.copy(0, Integer.MIN_VALUE, 1, 0, Integer.MIN_VALUE), Due.PLACE);
    }

    private static void dropTakesAway() {
        WindHarp x = new WindHarp();
        x.row(5, 1, 17);
        due.is("drop(-1)", x.drop(-1), Due.BAD);
        due.is("drop(8)", x.drop(8), Due.BAD);
        due.is("drop(5)", x.drop(5), 17);
        due.is("count(0)", x.count(0), 0);
        due.is("drop(5) again", x.drop(5), Due.NULL);
        due.is("status()", x.status(), 1);
        due.is("set(5, 0, 0)", x.set(5, 0, 0), Due.NULL);
        due.is("row(5, 0, 3)", x.row(5, 0, 3), 3);
        due.is("status()", x.status(), 0);
        due.is("drop(5)", x.drop(5), 3);
    }

    private static void statusStays() {
        WindHarp x = Due.harp("tree 10 20 0 0; wind 0 20 1;");
        x.drop(0);
        due.is("status()", x.status(), 1);
        x.feed(32, 1);
        x.wood();
        x.go(1);
        x.go(0);
        x.undo();
        x.sound(0, 0);
        x.buzz(0);
        x.kind(0, 0);
        x.ask(0, 0, 0);
        x.count(0);
        x.image(0);
        x.restore(1);
        x.row(9, 0, 0);
        x.set(9, 0, 0);
        x.copy(9, 0, 0, 0, 0);
        x.drop(9);
        x.birds(9, 0, 0, 1, 0);
        x.missing(9, 0, 0, 0);
        x.as(9, 0, 0);
        due.is("status() behind calls without a finding", x.status(), 1);
        x.as(0, 0, 3);
        due.is("status() behind as()", x.status(), 0);
        x.as(0, 0, 5);
        due.is("status() behind KIND", x.status(), 3);
        x.row(0, 0, 1);
        x.as(0, 0, 5);
        x.birds(0, 0, 0, 1, 0);
        due.is("status() behind birds()", x.status(), 0);
        x.as(0, 0, 5);
        x.missing(0, 0, 1, 5);
        due.is("status() behind missing()", x.status(), 0);
        x.as(0, 0, 5);
        x.drop(0);
        due.is("status() behind drop()", x.status(), 0);
    }
}
