/** Promises 6 to 9, edge by edge: a method for each sentence of the document that names one. */
public final class TextEdgesTest {
    private static final Due due = new Due("TextEdgesTest");
    private static final int MIN = Integer.MIN_VALUE, MAX = Integer.MAX_VALUE;
    private static final String TREE = "tree 10 1 1 1;";

    public static void main(String[] args) {
        lowestBytes();
        feedBad();
        feedFull();
        tapeOf400();
        woodOf400();
        blanksAlone();
        noBlanks();
        namesAndNumbersEnd();
        treeNumbers();
        windNumbers();
        tuneNumbers();
        treesAtMost();
        windsAtMost();
        tonesAtMost();
        anEmptyTune();
        aTuneOfNone();
        partsInTheirOrder();
        inPlaceOfTheOneBefore();
        imagesAndRowsStay();
        orderNumbers();
        treesThatThereAre();
        ordersAtMost();
        asSoonAsAllAreRead();
        cannotStandThere();
        isNone();
        fourFigures();
        theEnd();
        theFirstToken();
        theLeastOfOne();
        woodsFaultChangesNothing();
        ordersFaultChangesNothing();
        ordersState();
        ordersFull();
        theLatestFault();
        due.end();
    }

    private static int lengthOf(int tree, String wood) {
        return Due.harp(wood).tree(tree, 0);
    }

    /** As many bytes a call as told, with other bits above them. */
    private static int feedBy(WindHarp x, String text, int most) {
        int answer = 0;
        for (int at = 0; at < text.length(); at += most) {
            int n = Math.min(most, text.length() - at);
            long w = 0x5a5a5a5a5a5a5a5aL;
            for (int i = 0; i < n; i++) {
                w = w << 8 | text.charAt(at + i);
            }
            answer = x.feed(w, n);
            due.is("feed(.., " + n + ")", answer, at + n);
        }
        return answer;
    }

    private static void lowestBytes() {
        due.says("6: The lowest n bytes of w (1 to 8), the highest of them first");
        for (int n = 1; n <= 8; n++) {
            WindHarp x = new WindHarp();
            feedBy(x, "tree 12 3 4 5; tree 67 8 7 1;", n);
            due.is("wood() of " + n + " a call", x.wood(), 2);
            int[] all = {12, 3, 4, 5, 67, 8, 7, 1};
            for (int i = 0; i < 8; i++) {
                due.is("tree(" + i / 4 + ", " + i % 4 + ")", x.tree(i / 4, i % 4), all[i]);
            }
        }
        WindHarp x = new WindHarp();
        due.is("feed(-1, 8)", x.feed(-1L, 8), 8);
        due.is("feed(min, 8)", x.feed(Long.MIN_VALUE, 8), 16);
        due.is("feed(max, 1)", x.feed(Long.MAX_VALUE, 1), 17);
    }

    private static void feedBad() {
        due.says("6: BAD: n");
        for (int n : new int[] {MIN, -8, -1, 0, 9, 64, 257, MAX}) {
            Twins.unchanged(due, "feed(.., " + n + ")", x -> x.feed(0x2020202020202020L, n), Due.BAD);
        }
        WindHarp x = full();
        due.is("BAD ahead of FULL", x.feed(0, 9), Due.BAD);
        due.is("BAD ahead of FULL", x.feed(0, 0), Due.BAD);
        due.is("count(7)", x.count(7), 400);
    }

    private static WindHarp full() {
        WindHarp x = new WindHarp();
        for (int i = 0; i < 50; i++) {
            x.feed(0x2020202020202020L, 8);
        }
        return x;
    }

    private static void feedFull() {
        due.says("6: FULL: none comes");
        WindHarp x = full();
        for (int n = 1; n <= 8; n++) {
            due.is("feed(.., " + n + ") behind 400", x.feed(0x2020202020202020L, n), Due.FULL);
        }
        due.is("count(7)", x.count(7), 400);
        due.is("none came", x.wood(), Due.faultAt(400));
        due.is("empty then", x.feed(32, 1), 1);
        for (int free = 1; free <= 8; free++) {
            WindHarp y = new WindHarp();
            for (int i = 0; i < 49; i++) {
                y.feed(0x2020202020202020L, 8);
            }
            if (free < 8) {
                y.feed(0x2020202020202020L, 8 - free);
            }
            for (int n = free + 1; n <= 8; n++) {
                due.is("feed(.., " + n + ") where there is room for " + free, y.feed(0x2020202020202020L, n), Due.FULL);
            }
            due.is("count(7)", y.count(7), 400 - free);
            due.is("feed(.., " + free + ")", y.feed(0x2020202020202020L, free), 400);
        }
    }

    private static void tapeOf400() {
        due.says("THE TAPE has at most 400 bytes");
        WindHarp x = new WindHarp();
        due.is("byte by byte", feedBy(x, " ".repeat(400), 1), 400);
        due.is("one more", x.feed(32, 1), Due.FULL);
    }

    private static void woodOf400() {
        due.says("THE TAPE has at most 400 bytes, all of which are read");
        String blanks = " ".repeat(400 - TREE.length());
        due.is("blanks ahead", Due.wood(new WindHarp(), blanks + TREE), 1);
        due.is("blanks behind", Due.wood(new WindHarp(), TREE + blanks), 1);
        due.is("blanks between", Due.wood(new WindHarp(), "tree 10 1 1 1" + blanks + ";"), 1);
        due.is("the last byte is none", Due.wood(new WindHarp(), TREE + blanks.substring(1) + "?"), Due.faultAt(399));
        due.is("a letter, 400 times", Due.wood(new WindHarp(), "t".repeat(400)), Due.faultAt(0));
        due.is("a figure, 400 times", Due.wood(new WindHarp(), "1".repeat(400)), Due.faultAt(0));
        due.is("a sign, 400 times", Due.wood(new WindHarp(), ";".repeat(400)), Due.faultAt(0));
        WindHarp x = Due.harp(TREE);
        due.is("orders of 400 bytes", Due.orders(x, "dry;" + "\n".repeat(392) + "wet;"), 2);
        due.is("the last is done", x.count(5), 1);
        due.is("figures up to the end", Due.orders(x, "cut" + "0".repeat(397)), Due.faultAt(3));
    }

    private static void blanksAlone() {
        due.says("bytes 32 and 10 ahead of, between, behind these, as many as wanted");
        due.is("32", lengthOf(0, "  tree  77  1  1  1  ;  "), 77);
        due.is("10", lengthOf(0, "\n\ntree\n\n77\n\n1\n\n1\n\n1\n\n;\n\n"), 77);
        due.is("both", lengthOf(0, " \n tree\n 77 \n1 1\n1;\n"), 77);
        for (int sign = 0; sign < 256; sign++) {
            boolean isBlank = sign == 32 || sign == 10;
            WindHarp x = new WindHarp();
            due.is("byte " + sign + " ahead", Due.wood(x, (char) sign + TREE),
                isBlank ? 1 : Due.faultAt(0));
            WindHarp y = new WindHarp();
            due.is("byte " + sign + " behind", Due.wood(y, TREE + (char) sign),
                isBlank ? 1 : Due.faultAt(14));
            due.is("fault() by byte " + sign, y.fault(), isBlank ? 0 : 1);
        }
    }

    private static void noBlanks() {
        due.says("none is needed where one ends without");
        due.is("tree10 1 1 1;", lengthOf(0, "tree10 1 1 1;"), 10);
        due.is("the next word behind ;", lengthOf(1, "tree10 1 1 1;tree11 1 1 1;wind1 1 1;tune1;"), 11);
        WindHarp x = Due.harp("tree10 1 1 1;");
        due.is("orders", Due.orders(x, "let0 5;turn0 7;ice0;thaw0;wet;dry;fell0;cut0 1;"), 8);
        due.is("is needed between numbers", Due.wood(x, "tree 101 1 1;"), Due.faultAt(5));
        due.is("is needed between names", Due.orders(x, "wetwet;"), Due.faultAt(0));
    }

    private static void namesAndNumbersEnd() {
        due.says("TOKENS: NAMES (letters a to z), NUMBERS (figures, 3 at most), SIGNS ;");
        for (int sign = 0; sign < 256; sign++) {
            String text = "tree" + (char) sign + "10 1 1 1;";
            boolean isLetter = sign >= 'a' && sign <= 'z';
            int due4 = Due.faultAt(isLetter ? 0 : 4);
            if (sign == 32 || sign == 10) {
                due4 = 1;
            } else if (sign == '0') {
                due4 = 1;
            } else if (sign > '0' && sign <= '9') {
                due4 = Due.faultAt(4);
            }
            WindHarp x = new WindHarp();
            due.is("byte " + sign + " behind a name", Due.wood(x, text), due4);
            due.is("fault()", x.fault(), due4 == 1 ? 0 : sign > '0' && sign <= '9' ? 2 : 1);
            WindHarp y = new WindHarp();
            boolean isFigure = sign >= '0' && sign <= '9';
            boolean isBlank = sign == 32 || sign == 10;
            due.is("byte " + sign + " behind a number", Due.wood(y, "tree 10 1 1 1" + (char) sign + ";"),
                isBlank ? 1 : Due.faultAt(isFigure ? 12 : sign == ';' ? 14 : 13));
        }
    }

    private static void woodFaults(String text, int place, int number) {
        WindHarp x = new WindHarp();
        due.is("wood \"" + text + "\"", Due.wood(x, text), Due.faultAt(place));
        due.is("fault() of \"" + text + "\"", x.fault(), number);
        due.is("tape behind \"" + text + "\"", x.count(7), 0);
        due.is("no WOOD by \"" + text + "\"", x.image(0), Due.STATE);
    }

    /** One number of a text from one below the least, if there is such, to one above the most. */
    private static void numberIs(String ahead, String behind, int least, int most) {
        for (int v : new int[] {least, most}) {
            due.is(ahead + v + behind, Due.wood(new WindHarp(), ahead + v + behind) > 0 ? 1 : 0, 1);
        }
        if (least > 0) {
            woodFaults(ahead + (least - 1) + behind, ahead.length(), 2);
            woodFaults(ahead + 0 + behind, ahead.length(), 2);
        }
        if (most < 999) {
            woodFaults(ahead + (most + 1) + behind, ahead.length(), 2);
            woodFaults(ahead + 999 + behind, ahead.length(), 2);
        }
        woodFaults(ahead + 1000 + behind, ahead.length(), 1);
        woodFaults(ahead + "-1" + behind, ahead.length(), 1);
    }

    private static void treeNumbers() {
        due.says("LENGTH PULL SIDE GROWS (10 to 99; 1 to 20; 0 to 7; 0 to 5)");
        numberIs("tree ", " 1 1 1;", 10, 99);
        numberIs("tree 10 ", " 1 1;", 1, 20);
        numberIs("tree 10 1 ", " 1;", 0, 7);
        numberIs("tree 10 1 1 ", ";", 0, 5);
        numberIs(TREE.repeat(11) + "tree 10 1 1 ", ";", 0, 5);
        int[][] all = {{10, 1, 0, 0}, {99, 20, 7, 5}};
        for (int[] one : all) {
            WindHarp x = Due.harp("tree " + one[0] + " " + one[1] + " " + one[2] + " " + one[3] + ";");
            for (int what = 0; what < 4; what++) {
                due.is("tree(0, " + what + ")", x.tree(0, what), one[what]);
            }
        }
    }

    private static void windNumbers() {
        due.says("SIDE STRENGTH ODDS (0 to 7; 1 to 20; 1 to 99)");
        numberIs(TREE + "wind ", " 1 1;", 0, 7);
        numberIs(TREE + "wind 1 ", " 1;", 1, 20);
        numberIs(TREE + "wind 1 1 ", ";", 1, 99);
        numberIs(TREE + "wind 1 1 1;".repeat(5) + "wind 1 1 ", ";", 1, 99);
    }

    private static void tuneNumbers() {
        due.says("TONE (0 to 999)");
        numberIs(TREE + "tune ", ";", 0, 999);
        numberIs(TREE + "tune 1 ", ";", 0, 999);
        numberIs(TREE + "tune 1 2 3 4 5 6 7 8 9 ", ";", 0, 999);
    }

    private static void treesAtMost() {
        due.says("TREES 0 .. 11, 12 at most; FAULT 3 at its word");
        WindHarp x = new WindHarp();
        due.is("twelve", Due.wood(x, TREE.repeat(11) + "tree 98 20 7 5;"), 12);
        due.is("count(1)", x.count(1), 12);
        due.is("the twelfth", x.tree(11, 0), 98);
        due.is("none behind it", x.tree(12, 0), Due.BAD);
        due.is("one", Due.wood(x, TREE), 1);
        woodFaults(TREE.repeat(12) + "\n " + TREE, 170, 3);
        woodFaults(TREE.repeat(13), 168, 3);
        woodFaults(TREE.repeat(12) + "tree", 168, 3);
        woodFaults(TREE.repeat(12) + "trees", 168, 1);
    }

    private static void windsAtMost() {
        due.says("WINDS 0 .. 5, 6 at most; FAULT 3 at its word");
        WindHarp x = new WindHarp();
        due.is("six", Due.wood(x, TREE + "wind 7 1 1;".repeat(5) + "wind 1 20 99;"), 1);
        due.is("count(2)", x.count(2), 6);
        due.is("the sixth", x.sound(5, 0), 100);
        due.is("the fifth", x.sound(4, 0), Due.NONE);
        due.is("none behind it", x.sound(6, 0), Due.BAD);
        due.is("none at all", Due.wood(x, TREE), 1);
        due.is("count(2)", x.count(2), 0);
        woodFaults(TREE + "wind 1 1 1;".repeat(7), 80, 3);
        woodFaults(TREE + "wind 1 1 1;".repeat(6) + " wind", 81, 3);
        woodFaults(TREE + "wind 1 1 1;".repeat(6) + "wind1", 80, 3);
        woodFaults(TREE + "wind 1 1 1;".repeat(6) + "winds", 80, 1);
    }

    private static void tonesAtMost() {
        due.says("TONE { TONE }, 10 at most; FAULT 3 at the TONE");
        WindHarp x = new WindHarp();
        due.is("ten", Due.wood(x, TREE + "wind 5 1 1; tune 0 1 2 3 4 5 6 7 8 999;"), 1);
        due.is("count(3)", x.count(3), 10);
        due.is("slips of no sound", x.slips(0, 0), 10);
        due.is("one", Due.wood(x, TREE + "tune 999;"), 1);
        due.is("count(3)", x.count(3), 1);
        woodFaults(TREE + "tune 0 1 2 3 4 5 6 7 8 9 10;", 39, 3);
        woodFaults(TREE + "tune 0 1 2 3 4 5 6 7 8 9 \n 999 1 2", 41, 3);
        woodFaults(TREE + "tune 0 1 2 3 4 5 6 7 8 9 10", 39, 3);
        woodFaults(TREE + "tune 0 1 2 3 4 5 6 7 8 9 x", 39, 1);
        woodFaults(TREE + "tune 0 1 2 3 4 5 6 7 8 9", 38, 1);
    }

    private static void anEmptyTune() {
        due.says("where no tune is told: an empty one");
        WindHarp x = Due.harp(TREE + "wind 1 1 1; tune 100 100;");
        due.is("slips(0, 0)", x.slips(0, 0), 1);
        Due.wood(x, TREE + "wind 1 1 1;");
        due.is("count(3)", x.count(3), 0);
        due.is("slips(0, 99)", x.slips(0, 99), 1);
        Due.wood(x, TREE + "wind 5 1 1;");
        due.is("slips of no sound", x.slips(0, 0), 0);
    }

    private static void aTuneOfNone() {
        due.says("tune: 'tune' TONE { TONE } ';'");
        woodFaults(TREE + "tune;", 18, 1);
        woodFaults(TREE + "tune ;", 19, 1);
        woodFaults(TREE + "tune", 18, 1);
        woodFaults(TREE + "tune tune 1;", 19, 1);
    }

    private static void partsInTheirOrder() {
        due.says("wood: tree { tree } { wind } [ tune ]");
        woodFaults("", 0, 1);
        woodFaults("wind 1 1 1;" + TREE, 0, 1);
        woodFaults("tune 1;" + TREE, 0, 1);
        woodFaults(TREE + "wind 1 1 1;" + TREE, 25, 1);
        woodFaults(TREE + "tune 1;wind 1 1 1;", 21, 1);
        woodFaults(TREE + "tune 1;" + TREE, 21, 1);
        woodFaults(TREE + "tune 1;tune 1;", 21, 1);
        woodFaults(TREE + "wind 1 1 1;tune 1;tree", 32, 1);
        woodFaults(TREE + "wet;", 14, 1);
        due.is("trees and a tune", Due.wood(new WindHarp(), TREE + "tune 1;"), 1);
        due.is("all three", Due.wood(new WindHarp(), TREE + "wind 1 1 1;tune 1;"), 1);
    }

    private static void inPlaceOfTheOneBefore() {
        due.says("A WOOD that is read stands in place of the one before: year 0, dry, no ICE, nothing FELLED or DONE");
        WindHarp x = Due.harp("tree 20 3 4 5; tree 21 6 7 0; wind 4 9 9; tune 1 2;");
        Due.orders(x, "wet; ice 0; fell 1; cut 0 3; fell 0; ice 1;");
        x.go(60);
        x.tuned(0, 0, 0);
        x.cheapest(0, 0, 1, 20, 0, 0);
        due.is("another wood", Due.wood(x, "tree 30 1 1 1; tree 31 1 1 1;"), 2);
        int[] counts = {0, 2, 0, 0, 0, 0, 0, 0};
        for (int what = 0; what < 8; what++) {
            due.is("count(" + what + ")", x.count(what), counts[what]);
        }
        for (int tree = 0; tree < 2; tree++) {
            due.is("LENGTH of " + tree, x.tree(tree, 0), 30 + tree);
            due.is("ICE of " + tree, x.tree(tree, 4), 0);
            due.is("FELLED of " + tree, x.tree(tree, 5), 0);
        }
        due.is("the winds are gone", x.buzz(0), Due.BAD);
        due.is("undo()", x.undo(), Due.STATE);
    }

    private static void imagesAndRowsStay() {
        due.says("IMAGES and ROWS stay");
        WindHarp x = Due.harp("tree 33 3 4 5; tree 34 1 1 1;");
        Due.orders(x, "wet;");
        x.image(1);
        Due.items(x, 7, 1, 5, 6);
        x.row(0, 0, 0);
        Due.wood(x, TREE + "wind 1 20 1;");
        due.is("count(0)", x.count(0), 2);
        due.is("restore(0)", x.restore(0), Due.STATE);
        due.is("item 1 of row 7", Due.item(x, 7, 1), 6);
        due.is("restore(1)", x.restore(1), 1);
        due.is("tree(0, 0)", x.tree(0, 0), 33);
        due.is("count(1)", x.count(1), 2);
        due.is("count(5)", x.count(5), 1);
        due.is("count(6)", x.count(6), 1);
        due.is("drop(7)", x.drop(7), 2);
        due.is("drop(0)", x.drop(0), 0);
    }

    private static WindHarp twoTrees() {
        return Due.harp("tree 20 4 0 1;tree 25 5 1 0;");
    }

    private static void orderFaults(String text, int place, int number) {
        WindHarp x = twoTrees();
        due.is("orders \"" + text + "\"", Due.orders(x, text), Due.faultAt(place));
        due.is("fault() of \"" + text + "\"", x.fault(), number);
        due.is("done by \"" + text + "\"", x.count(6), 0);
        due.is("tape behind \"" + text + "\"", x.count(7), 0);
    }

    private static void orderNumbers() {
        due.says("orders: N 1 to 89; SIDE 0 to 7");
        for (String word : new String[] {"cut", "let"}) {
            due.is(word + " 1", Due.orders(twoTrees(), word + " 1 1;"), 1);
            due.is(word + " 89", Due.orders(twoTrees(), word + " 1 89;"), 1);
            due.is(word + " 089", Due.orders(twoTrees(), word + " 001 089;"), 1);
            orderFaults(word + " 1 0;", 6, 2);
            orderFaults(word + " 1 000;", 6, 2);
            orderFaults(word + " 1 90;", 6, 2);
            orderFaults(word + " 1 999;", 6, 2);
            orderFaults(word + " 1 0089;", 6, 1);
        }
        due.is("turn 0", Due.orders(twoTrees(), "turn 1 0;"), 1);
        due.is("turn 7", Due.orders(twoTrees(), "turn 1 7;"), 1);
        orderFaults("turn 1 8;", 7, 2);
        orderFaults("turn 1 999;", 7, 2);
    }

    private static void treesThatThereAre() {
        due.says("orders: TREES that there are");
        String[][] all = {{"cut ", " 5;"}, {"let ", " 5;"}, {"turn ", " 5;"}, {"ice ", ";"}, {"thaw ", ";"}, {"fell ", ";"}};
        for (String[] order : all) {
            String word = order[0];
            String rest = order[1];
            due.is(word + "0", Due.orders(twoTrees(), word + "0" + rest), 1);
            due.is(word + "1", Due.orders(twoTrees(), word + "1" + rest), 1);
            orderFaults(word + "2" + rest, word.length(), 2);
            orderFaults(word + "12" + rest, word.length(), 2);
            orderFaults(word + "999" + rest, word.length(), 2);
            orderFaults(word + "1000" + rest, word.length(), 1);
        }
        WindHarp x = Due.harp(TREE.repeat(12));
        due.is("the twelfth", Due.orders(x, "let 11 7;"), 1);
        due.is("its LENGTH", x.tree(11, 0), 17);
        due.is("none behind it", Due.orders(x, "let 12 7;"), Due.faultAt(4));
    }

    private static void ordersAtMost() {
        due.says("orders: order { order }, 12 at most; FAULT 3 at its word");
        due.is("one", Due.orders(twoTrees(), "wet;"), 1);
        due.is("twelve", Due.orders(twoTrees(), "wet;".repeat(12)), 12);
        orderFaults("wet;".repeat(13), 48, 3);
        orderFaults("wet;".repeat(12) + " \nlet", 50, 3);
        orderFaults("wet;".repeat(12) + "lets", 48, 1);
        orderFaults("wet;".repeat(12) + ";", 48, 1);
        orderFaults("", 0, 1);
    }

    private static void asSoonAsAllAreRead() {
        due.says("They are done one by one, as soon as all are read");
        WindHarp x = twoTrees();
        due.is("the last one's fault", Due.orders(x, "cut 0 9; wet; ice 1; fell 0; turn 0 5; let 1 90;"), Due.faultAt(45));
        int[] first = {20, 4, 0, 1, 0, 0, 200};
        for (int what = 0; what < 7; what++) {
            due.is("tree(0, " + what + ")", x.tree(0, what), first[what]);
        }
        due.is("tree(1, 4)", x.tree(1, 4), 0);
        due.is("count(5)", x.count(5), 0);
        due.is("one by one", Due.orders(x, "cut 0 89; let 0 5; cut 0 1; let 1 89; cut 1 89;"), 5);
        due.is("10, 15, 14", x.tree(0, 0), 14);
        due.is("114, 25", x.tree(1, 0), 25);
    }

    private static void cannotStandThere() {
        due.says("FAULT 1: it cannot stand there");
        String[] tokens = {"tree", "10", "1", "1", "1", ";", "wind", "1", "1", "1", ";", "tune", "5", "6", ";", ""};
        String ahead = "";
        for (String token : tokens) {
            boolean isNumberDue = !token.isEmpty() && Character.isDigit(token.charAt(0));
            boolean isSignDue = token.equals(";");
            boolean isTuneOfOne = ahead.endsWith("tune 5 ");
            boolean isBehindTones = ahead.endsWith("tune 5 6 ");
            woodFaults(ahead + "zither", ahead.length(), 1);
            if (!isSignDue && !isTuneOfOne) {
                woodFaults(ahead + ";", ahead.length(), 1);
            }
            if (!isNumberDue && !isBehindTones) {
                woodFaults(ahead + "7", ahead.length(), 1);
            }
            ahead += token + " ";
        }
        orderFaults("cut cut 1;", 4, 1);
        orderFaults("cut 0 ;", 6, 1);
        orderFaults("cut 0 1 1;", 8, 1);
        orderFaults("turn 0 1 1;", 9, 1);
        orderFaults("turn 0;", 6, 1);
        orderFaults("ice 0 1;", 6, 1);
        orderFaults("thaw;", 4, 1);
        orderFaults("fell fell;", 5, 1);
        orderFaults("wet 0;", 4, 1);
        orderFaults("dry 0;", 4, 1);
        orderFaults(";", 0, 1);
        orderFaults("0", 0, 1);
        orderFaults("wet;;", 4, 1);
        orderFaults("tree 10 1 1 1;", 0, 1);
    }

    private static void isNone() {
        due.says("FAULT 1: or is none");
        for (String sign : new String[] {"\t", "\r", "!", "/", ":", "<", "@", "A", "Z", "`", "{", "\u0000", "\u007f", "\u0080",
            "\u00a0", "\u00e9", "\u00ff"}) {
            woodFaults(sign, 0, 1);
            woodFaults("tree " + sign, 5, 1);
            woodFaults("tree 10 1 1 1" + sign, 13, 1);
            woodFaults(TREE + "tune 1 " + sign, 21, 1);
            orderFaults("wet;" + sign, 4, 1);
        }
    }

    private static void fourFigures() {
        due.says("FAULT 1: a run of four figures or more, at its first");
        woodFaults("tree 0010 1 1 1;", 5, 1);
        woodFaults("tree 1010 1 1 1;", 5, 1);
        woodFaults("tree 4294967306 1 1 1;", 5, 1);
        woodFaults("tree 18446744073709551626 1 1 1;", 5, 1);
        woodFaults("tree 10 1 1 0001;", 12, 1);
        woodFaults(TREE + "tune 0000;", 19, 1);
        woodFaults(TREE + "tune 1 0000;", 21, 1);
        woodFaults("0000", 0, 1);
        orderFaults("cut 0000 1;", 4, 1);
        orderFaults("ice 4294967296;", 4, 1);
        due.is("three are none of them", lengthOf(0, "tree 010 001 001 001;"), 10);
        due.is("three of a TONE", Due.wood(new WindHarp(), TREE + "tune 000;"), 1);
    }

    private static void theEnd() {
        due.says("FAULT 1: the end: how many bytes there are");
        String text = "tree 10 1 1 1;wind 1 1 1;tune 5;";
        int[] wholes = {14, 25, 32};
        for (int n = 0; n < text.length(); n++) {
            boolean isWhole = n == wholes[0] || n == wholes[1];
            String part = text.substring(0, n);
            char last = n == 0 ? ' ' : part.charAt(n - 1);
            boolean isCutName = last >= 'a' && last <= 'z' && text.charAt(n) >= 'a';
            int start = n;
            for (int k = n; isCutName && k > 0 && part.charAt(k - 1) >= 'a'; k--) {
                start = k - 1;
            }
            boolean isCutNumber = part.endsWith("tree 1");
            due.is("\"" + part + "\"", Due.wood(new WindHarp(), part),
                isWhole ? 1 : Due.faultAt(isCutNumber ? 5 : start));
            due.is("\"" + part + " \\n \"", Due.wood(new WindHarp(), part + " \n "),
                isWhole ? 1 : Due.faultAt(isCutNumber ? 5 : isCutName ? start : n + 3));
        }
        orderFaults("", 0, 1);
        orderFaults("  ", 2, 1);
        orderFaults("cut", 3, 1);
        orderFaults("cut 0", 5, 1);
        orderFaults("cut 0 1", 7, 1);
        orderFaults("cut 0 1 \n", 9, 1);
        orderFaults("wet", 3, 1);
        orderFaults("wet;dry", 7, 1);
    }

    private static void theFirstToken() {
        due.says("FAULTS, the first TOKEN that has one (its first byte)");
        woodFaults("tree 9 0 8 6 x", 5, 2);
        woodFaults("tree 10 0 8 6 x", 8, 2);
        woodFaults("tree 10 1 8 6 x", 10, 2);
        woodFaults("tree 10 1 1 6 x", 12, 2);
        woodFaults("tree 10 1 1 1 x", 14, 1);
        woodFaults("tree   999 1 1 1;", 7, 2);
        woodFaults("  zither", 2, 1);
        orderFaults("cut 2 90 x", 4, 2);
        orderFaults("cut 1 90 x", 6, 2);
        orderFaults("cut 1 89 xyz", 9, 1);
    }

    private static void theLeastOfOne() {
        due.says("FAULTS, of one TOKEN the least");
        woodFaults(TREE + "tune 0 1 2 3 4 5 6 7 8 9 1234;", 39, 1);
        woodFaults(TREE + "tune 0 1 2 3 4 5 6 7 8 9 tune", 39, 1);
        woodFaults(TREE.repeat(12) + "wind 1 1 1;tree", 179, 1);
        woodFaults(TREE + "wind 1 1 1;".repeat(6) + "tune 1;wind", 87, 1);
        woodFaults(TREE.repeat(12) + "1000", 168, 1);
        woodFaults("tree 1000 1 1 1;", 5, 1);
        orderFaults("wet;".repeat(12) + "tree", 48, 1);
        orderFaults("wet;".repeat(12) + "cut 9 99;", 48, 3);
        orderFaults("cut 1000 1;", 4, 1);
    }

    private static void woodsFaultChangesNothing() {
        due.says("7: a FAULT: all but the tape, and what fault() tells, stays");
        Twins.unchangedByFault(due, "", WindHarp::wood, 0, 1);
        Twins.unchangedByFault(due, "wet;", WindHarp::wood, 0, 1);
        Twins.unchangedByFault(due, TREE + "wind 1 1 1; tune 5 6;;", WindHarp::wood, 35, 1);
        Twins.unchangedByFault(due, "tree 99 1 1 1; tree 98 2 2 2; tree 97 3 3 6;", WindHarp::wood, 42, 2);
        Twins.unchangedByFault(due, TREE.repeat(13), WindHarp::wood, 168, 3);
    }

    private static void ordersFaultChangesNothing() {
        due.says("8: A FAULT as wood(): nothing is done");
        Twins.unchangedByFault(due, "", WindHarp::orders, 0, 1);
        Twins.unchangedByFault(due, "cut 0 1; thaw 2; dry; fell 0; turn 1 7; let 9 1;", WindHarp::orders, 44, 2);
        Twins.unchangedByFault(due, "let 0 1; cut 0 1", WindHarp::orders, 16, 1);
        Twins.unchangedByFault(due, "let 0 1;".repeat(13), WindHarp::orders, 96, 3);
    }

    private static void ordersState() {
        due.says("8: STATE: no WOOD (the tape stays)");
        WindHarp x = new WindHarp();
        due.is("an empty tape", x.orders(), Due.STATE);
        Due.feed(x, "zither");
        due.is("a fault on the tape", x.orders(), Due.STATE);
        due.is("count(7)", x.count(7), 6);
        due.is("fault()", x.fault(), 0);
        x.wood();
        Due.feed(x, TREE);
        due.is("a wood on the tape", x.orders(), Due.STATE);
        due.is("which stays", x.wood(), 1);
        due.is("orders()", Due.orders(x, "wet;"), 1);
    }

    private static void ordersFull() {
        due.says("8: FULL: more than 60 would be DONE: nothing is done (the tape is empty all the same)");
        for (int more = 1; more <= 12; more++) {
            WindHarp x = Due.harp("tree 10 1 1 1; tree 50 1 1 1;");
            for (int i = 0; i < 4; i++) {
                Due.orders(x, "let 0 1;".repeat(12));
            }
            due.is("up to " + (61 - more), Due.orders(x, "let 0 1;".repeat(13 - more)), 61 - more);
            due.is(more + " more", Due.orders(x, "let 1 1;".repeat(more)), Due.FULL);
            due.is("nothing is done", x.tree(1, 0), 50);
            due.is("count(6)", x.count(6), 61 - more);
            due.is("the tape is empty", x.count(7), 0);
            due.is("fault()", x.fault(), 0);
            if (more > 1) {
                due.is("one fewer", Due.orders(x, "let 1 1;".repeat(more - 1)), 60);
            }
            due.is("one beyond", Due.orders(x, "wet;"), Due.FULL);
            due.is("it is dry", x.count(5), 0);
            due.is("undo()", x.undo(), 59);
            due.is("there is room for one", Due.orders(x, "wet;"), 60);
        }
    }

    private static void theLatestFault() {
        due.says("9: The number of the latest FAULT; 0 before one");
        WindHarp x = new WindHarp();
        int[] told = new int[10];
        told[0] = x.fault();
        Due.wood(x, TREE);
        told[1] = x.fault();
        Due.wood(x, TREE.repeat(13));
        told[2] = x.fault();
        Due.orders(x, "wet;");
        told[3] = x.fault();
        Due.orders(x, "ice 1;");
        told[4] = x.fault();
        Due.wood(x, TREE);
        told[5] = x.fault();
        x.wood();
        told[6] = x.fault();
        Due.orders(x, "wet;".repeat(13));
        told[7] = x.fault();
        x.feed(0, 0);
        x.go(0);
        x.drop(0);
        x.image(0);
        x.restore(0);
        told[8] = x.fault();
        Due.orders(x, "dry");
        told[9] = x.fault();
        due.all("fault()", told, 0, 0, 3, 3, 2, 2, 1, 3, 3, 1);
    }
}
