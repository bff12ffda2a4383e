/** Promises 6 to 9: the tape, woods, and faults of texts. */
public final class TextsTest {
    private static final Due due = new Due("TextsTest");
    private static final String TREE = "tree 10 1 1 1;";

    public static void main(String[] args) {
        feedAnswers();
        feedRefuses();
        woodsAreRead();
        woodFaults();
        orderFaults();
        faultsChangeNothing();
        ordersRefuse();
        due.end();
    }

    private static void feedAnswers() {
        WindHarp x = new WindHarp();
        due.is("feed(.., 1)", x.feed(0x1122334455667720L, 1), 1);
        due.is("feed(.., 8)", x.feed(0x7472656520313020L, 8), 9);
        due.is("feed(.., 6)", x.feed(0x9999312031203130L, 6), 15);
        due.is("feed(.., 2)", x.feed(0x203bL, 2), 17);
        due.is("count(7)", x.count(7), 17);
        due.is("wood() of \" tree 10 1 1 10 ;\"", x.wood(), Due.faultAt(13));
        due.is("fault()", x.fault(), 2);
        due.is("count(7)", x.count(7), 0);
    }

    private static void feedRefuses() {
        WindHarp x = new WindHarp();
        due.is("feed(0, 0)", x.feed(0, 0), Due.BAD);
        due.is("feed(0, 9)", x.feed(0, 9), Due.BAD);
        due.is("feed(0, -1)", x.feed(0, -1), Due.BAD);
        due.is("feed(0, min)", x.feed(0, Integer.MIN_VALUE), Due.BAD);
        for (int i = 1; i <= 49; i++) {
            due.is("feed", x.feed(0x2020202020202020L, 8), 8 * i);
        }
        due.is("feed to 397", x.feed(0x202020, 5), 397);
        due.is("feed beyond 400", x.feed(0, 4), Due.FULL);
        due.is("feed 9 is BAD ahead of FULL", x.feed(0, 9), Due.BAD);
        due.is("count(7)", x.count(7), 397);
        due.is("feed to 400", x.feed(0x20200aL, 3), 400);
        due.is("feed beyond 400", x.feed(0, 1), Due.FULL);
        due.is("wood() of a 0 byte and blanks", x.wood(), Due.faultAt(392));
        due.is("feed behind wood()", x.feed(0, 1), 1);
    }

    private static void reads(String text, int trees, int winds, int tones) {
        WindHarp x = new WindHarp();
        due.is("wood \"" + text + "\"", Due.wood(x, text), trees);
        due.is("trees of \"" + text + "\"", x.count(1), trees);
        due.is("winds of \"" + text + "\"", x.count(2), winds);
        due.is("tones of \"" + text + "\"", x.count(3), tones);
        due.is("fault() of \"" + text + "\"", x.fault(), 0);
    }

    private static void woodsAreRead() {
        reads(TREE, 1, 0, 0);
        reads("tree10 1 1 1;", 1, 0, 0);
        reads("\n tree \n10\n1 1  1 ; ", 1, 0, 0);
        reads("tree 010 001 007 005;", 1, 0, 0);
        reads("tree99 20 7 5;wind7 20 99;tune999;", 1, 1, 1);
        reads("tree 10 1 0 0;wind 0 1 1;tune 0;", 1, 1, 1);
        reads(TREE + "tune 1 2 3 4 5 6 7 8 9 10;", 1, 0, 10);
        reads(TREE + "tune 999 999 0 999;", 1, 0, 4);
        reads(TREE.repeat(12) + "wind 0 1 1;".repeat(6) + "tune 5 5;", 12, 6, 2);
        WindHarp x = Due.harp("tree 20 3 4 5; tree 21 6 7 0;wind 4 1 1;");
        newWoodsAreDry();
        int[] first = {20, 3, 4, 5, 0, 0, 150};
        int[] second = {21, 6, 7, 0, 0, 0, 285};
        for (int what = 0; what < 7; what++) {
            due.is("tree(0, " + what + ")", x.tree(0, what), first[what]);
            due.is("tree(1, " + what + ")", x.tree(1, what), second[what]);
        }
        x.go(5);
        Due.orders(x, "ice 0; fell 1; wet; turn 0 1;");
        due.is("a wood in place of another", Due.wood(x, "tree 20 3 4 5; tree 21 6 7 0;"), 2);
        for (int what = 0; what < 7; what++) {
            due.is("tree(0, " + what + ") anew", x.tree(0, what), first[what]);
            due.is("tree(1, " + what + ") anew", x.tree(1, what), second[what]);
        }
        for (int what = 2; what < 8; what++) {
            due.is("count(" + what + ") anew", x.count(what), 0);
        }
        due.is("undo() anew", x.undo(), Due.STATE);
    }

    /** What is foretold of a wet, old wood leaves nothing behind in the next. */
    private static void newWoodsAreDry() {
        WindHarp x = Due.harp("tree 20 3 4 5; wind 4 1 1; tune 5;");
        Due.orders(x, "wet; ice 0; fell 0; let 0 5;");
        x.go(9);
        x.tuned(0, 20, 0);
        x.cheapest(0, 0, 1, 20, 0, 0);
        Due.wood(x, "tree 21 3 4 5; wind 4 1 1;");
        int[] counts = {0, 1, 1, 0, 0, 0, 0, 0};
        for (int what = 0; what < 8; what++) {
            due.is("count(" + what + ") of a new wood", x.count(what), counts[what]);
        }
        int[] tree = {21, 3, 4, 5, 0, 0, 142};
        for (int what = 0; what < 7; what++) {
            due.is("tree(0, " + what + ") of a new wood", x.tree(0, what), tree[what]);
        }
    }

    private static void woodFails(String text, int place, int number) {
        WindHarp x = new WindHarp();
        due.is("wood \"" + text + "\"", Due.wood(x, text), Due.faultAt(place));
        due.is("fault() of \"" + text + "\"", x.fault(), number);
        due.is("trees of \"" + text + "\"", x.count(1), 0);
        due.is("tape of \"" + text + "\"", x.count(7), 0);
        due.is("no wood by \"" + text + "\"", x.go(1), Due.STATE);
    }

    private static void woodFaults() {
        woodFails("", 0, 1);
        woodFails("  \n", 3, 1);
        woodFails(";", 0, 1);
        woodFails("7", 0, 1);
        woodFails("tune 5;", 0, 1);
        woodFails("wind 1 1 1;", 0, 1);
        woodFails("trees 10 1 1 1;", 0, 1);
        woodFails("tre 10 1 1 1;", 0, 1);
        woodFails("treez 10 1 1 1;", 0, 1);
        woodFails("treea 10 1 1 1;", 0, 1);
        woodFails("tree{10 1 1 1;", 4, 1);
        woodFails("tree`10 1 1 1;", 4, 1);
        woodFails("tree:10 1 1 1;", 4, 1);
        woodFails("tree/10 1 1 1;", 4, 1);
        woodFails("Tree 10 1 1 1;", 0, 1);
        woodFails("\ttree 10 1 1 1;", 0, 1);
        woodFails("tree\r10 1 1 1;", 4, 1);
        woodFails("tree \u00ff10 1 1 1;", 5, 1);
        woodFails("tree -10 1 1 1;", 5, 1);
        woodFails("tree 10 1 1 1,", 13, 1);
        woodFails("tree 10 1 1;", 11, 1);
        woodFails("tree 10 1 1 1 1;", 14, 1);
        woodFails("tree 10 1 1 1", 13, 1);
        woodFails("tree 10 1 1 1  ", 15, 1);
        woodFails("tree ten 1 1 1;", 5, 1);
        woodFails("tree 0010 1 1 1;", 5, 1);
        woodFails("tree 0009 1 1 1;", 5, 1);
        woodFails("tree 10 99999999999999 1 1;", 8, 1);
        woodFails("tree 9 1 1 1;", 5, 2);
        woodFails("tree 100 1 1 1;", 5, 2);
        woodFails("tree 10 0 1 1;", 8, 2);
        woodFails("tree 10 21 1 1;", 8, 2);
        woodFails("tree 10 1 8 1;", 10, 2);
        woodFails("tree 10 1 1 6;", 12, 2);
        woodFails("tree 10 1 1 6", 12, 2);
        woodFails(TREE + "wind 8 1 1;", 19, 2);
        woodFails(TREE + "wind 1 0 1;", 21, 2);
        woodFails(TREE + "wind 1 21 1;", 21, 2);
        woodFails(TREE + "wind 1 1 0;", 23, 2);
        woodFails(TREE + "wind 1 1 100;", 23, 2);
        woodFails(TREE + "wind 1 1 1;" + TREE, 25, 1);
        woodFails(TREE + "tune;", 18, 1);
        woodFails(TREE + "tune 1000;", 19, 1);
        woodFails(TREE + "tune 1;wind 1 1 1;", 21, 1);
        woodFails(TREE + "tune 1;" + TREE, 21, 1);
        woodFails(TREE + "tune 1;tune 1;", 21, 1);
        woodFails(TREE + "tune 1;;", 21, 1);
        woodFails(TREE + "tune 1 tune", 21, 1);
        woodFails(TREE.repeat(12) + "tree", 168, 3);
        woodFails(TREE.repeat(12) + "tree 9", 168, 3);
        woodFails(TREE.repeat(12) + "wind 0 1 1;" + TREE, 179, 1);
        woodFails(TREE + "wind 0 1 1;".repeat(7), 80, 3);
        woodFails(TREE + "wind 0 1 1;".repeat(6) + "tune 1;wind", 87, 1);
        woodFails(TREE + "tune 1 2 3 4 5 6 7 8 9 10 11;", 40, 3);
        woodFails(TREE + "tune 1 2 3 4 5 6 7 8 9 10 1111;", 40, 1);
        woodFails(TREE + "tune 1 2 3 4 5 6 7 8 9 10", 39, 1);
        woodFails("cut 0 1;", 0, 1);
    }

    private static void ordersFail(String text, int place, int number) {
        WindHarp x = Due.harp("tree 20 4 0 1;tree 25 5 1 0;wind 0 5 30;tune 200 200;");
        Due.orders(x, "cut 0 1;");
        due.is("orders \"" + text + "\"", Due.orders(x, text), Due.faultAt(place));
        due.is("fault() of \"" + text + "\"", x.fault(), number);
        due.is("done behind \"" + text + "\"", x.count(6), 1);
        due.is("tape behind \"" + text + "\"", x.count(7), 0);
        due.is("length behind \"" + text + "\"", x.tree(0, 0), 19);
        due.is("weather behind \"" + text + "\"", x.count(5), 0);
    }

    private static void orderFaults() {
        ordersFail("", 0, 1);
        ordersFail(" ", 1, 1);
        ordersFail("tree 10 1 1 1;", 0, 1);
        ordersFail("cuts 0 1;", 0, 1);
        ordersFail("0", 0, 1);
        ordersFail("cut 0 1;;", 8, 1);
        ordersFail("cut 2 1;", 4, 2);
        ordersFail("cut 0 0;", 6, 2);
        ordersFail("let 0 0;", 6, 2);
        ordersFail("cut 0 90;", 6, 2);
        ordersFail("let 0 90;", 6, 2);
        ordersFail("let 2 90;", 4, 2);
        ordersFail("cut 0;", 5, 1);
        ordersFail("cut;", 3, 1);
        ordersFail("cut 0 1 1;", 8, 1);
        ordersFail("cut 0000 1;", 4, 1);
        ordersFail("turn 0 8;", 7, 2);
        ordersFail("turn 2 7;", 5, 2);
        ordersFail("turn 1;", 6, 1);
        ordersFail("ice 2;", 4, 2);
        ordersFail("thaw 2;", 5, 2);
        ordersFail("fell 12;", 5, 2);
        ordersFail("fell 0 1;", 7, 1);
        ordersFail("wet 0;", 4, 1);
        ordersFail("dry 0;", 4, 1);
        ordersFail("wet", 3, 1);
        ordersFail("wet;dry;cut 0 5;ice 9;", 20, 2);
        ordersFail("wet;".repeat(13), 48, 3);
        ordersFail("wet;".repeat(12) + "rain;", 48, 1);
        ordersFail("wet;".repeat(12) + "cut 9 9;", 48, 3);
        WindHarp x = Due.harp("tree 20 4 0 1;");
        due.is("cut0 01;\\nlet 0\\n89 ;", Due.orders(x, " cut0 01;\nlet 0\n89 ; "), 2);
        due.is("length", x.tree(0, 0), 108);
        due.is("fault()", x.fault(), 0);
        due.is("twelve", Due.orders(x, "wet;".repeat(12)), 14);
    }

    private static void faultsChangeNothing() {
        WindHarp x = Due.harp("tree 20 4 0 1;tree 25 5 1 0;wind 0 5 30;tune 200 200;");
        x.go(3);
        Due.orders(x, "wet;ice 1;");
        due.is("a wood's fault", Due.wood(x, "tree 30 1 1 1; wind 1 1 1; tune 1 2 3 x"), Due.faultAt(38));
        int[] counts = {0, 2, 1, 2, 3, 1, 2, 0};
        for (int what = 0; what < 8; what++) {
            due.is("count(" + what + ")", x.count(what), counts[what]);
        }
        due.is("length", x.tree(0, 0), 23);
        due.is("ice", x.tree(1, 4), 1);
        due.is("tune", x.slips(0, 99), 1);
        due.is("fault()", x.fault(), 1);
        due.is("orders behind it", Due.orders(x, "dry;"), 3);
        due.is("fault() stays", x.fault(), 1);
        due.is("a later fault", Due.orders(x, "ice 2;"), Due.faultAt(4));
        due.is("fault()", x.fault(), 2);
    }

    private static void ordersRefuse() {
        WindHarp x = new WindHarp();
        Due.feed(x, "wet;");
        due.is("orders() without a wood", x.orders(), Due.STATE);
        due.is("the tape stays", x.count(7), 4);
        due.is("fault() is none", x.fault(), 0);
        due.is("the tape as a wood", x.wood(), Due.faultAt(0));
        Due.wood(x, TREE);
        for (int i = 1; i <= 4; i++) {
            due.is("twelve more", Due.orders(x, "wet;dry;".repeat(6)), 12 * i);
        }
        due.is("ten more", Due.orders(x, "let 0 5;".repeat(10)), 58);
        due.is("beyond 60", Due.orders(x, "let 0 1;cut 0 5;wet;"), Due.FULL);
        due.is("nothing is done", x.tree(0, 0), 60);
        due.is("count(5)", x.count(5), 0);
        due.is("count(6)", x.count(6), 58);
        due.is("the tape is empty", x.count(7), 0);
        due.is("a fault ahead of FULL", Due.orders(x, "wet;wet;wet;rain;"), Due.faultAt(12));
        due.is("to 60", Due.orders(x, "let 0 1;cut 0 5;"), 60);
        due.is("beyond 60", Due.orders(x, "wet;"), Due.FULL);
        due.is("fault() behind FULL", x.fault(), 1);
        due.is("undo()", x.undo(), 59);
        due.is("to 60 again", Due.orders(x, "wet;"), 60);
    }
}
