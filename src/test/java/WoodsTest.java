/** Promises 8, 10 to 13, 22, 23: orders done and undone, years, sounds, images. */
public final class WoodsTest {
    private static final Due due = new Due("WoodsTest");

    public static void main(String[] args) {
        ordersAreDone();
        undoneOneByOne();
        undoneBehindYears();
        undoneWithinBounds();
        yearsGo();
        treeRefuses();
        whatSounds();
        tones();
        images();
        imagesRefuse();
        due.end();
    }

    private static void ordersAreDone() {
        WindHarp x = Due.harp("tree 20 4 0 1; tree 25 5 1 0;");
        due.is("orders", Due.orders(x, "cut 0 5; let 1 89; turn 0 7; ice 1; fell 0; wet;"), 6);
        due.is("cut", x.tree(0, 0), 15);
        due.is("let", x.tree(1, 0), 114);
        due.is("turn", x.tree(0, 2), 7);
        due.is("ice", x.tree(1, 4), 1);
        due.is("no ice there", x.tree(0, 4), 0);
        due.is("fell", x.tree(0, 5), 1);
        due.is("wet", x.count(5), 1);
        due.is("more", Due.orders(x, "thaw 1; dry; cut 0 89;"), 9);
        due.is("thaw", x.tree(1, 4), 0);
        due.is("dry", x.count(5), 0);
        due.is("10 at least", x.tree(0, 0), 10);
        due.is("in order", Due.orders(x, "cut 1 89; cut 1 89; let 1 7; turn 1 2; turn 1 3;"), 14);
        due.is("in order, length", x.tree(1, 0), 17);
        due.is("in order, side", x.tree(1, 2), 3);
    }

    private static void undoneOneByOne() {
        WindHarp x = Due.harp("tree 20 4 0 1; tree 25 5 1 0;");
        Due.orders(x, "cut 0 5; let 1 89; turn 0 7; turn 0 3; ice 1; ice 1; fell 0; fell 0; wet; wet; dry; thaw 1;");
        due.is("undo thaw", x.undo(), 11);
        due.is("ice", x.tree(1, 4), 1);
        due.is("undo dry", x.undo(), 10);
        due.is("wet", x.count(5), 1);
        x.undo();
        due.is("wet still", x.count(5), 1);
        x.undo();
        due.is("dry again", x.count(5), 0);
        x.undo();
        due.is("felled still", x.tree(0, 5), 1);
        x.undo();
        due.is("felled no more", x.tree(0, 5), 0);
        x.undo();
        due.is("ice still", x.tree(1, 4), 1);
        x.undo();
        due.is("ice no more", x.tree(1, 4), 0);
        due.is("side", x.tree(0, 2), 3);
        x.undo();
        due.is("side before", x.tree(0, 2), 7);
        x.undo();
        due.is("side at first", x.tree(0, 2), 0);
        due.is("length", x.tree(1, 0), 114);
        due.is("undo let", x.undo(), 1);
        due.is("length", x.tree(1, 0), 25);
        due.is("undo cut", x.undo(), 0);
        due.is("length", x.tree(0, 0), 20);
        due.is("undo none", x.undo(), Due.STATE);
        due.is("undo without a wood", new WindHarp().undo(), Due.STATE);
        Due.orders(x, "thaw 0; dry;");
        x.undo();
        x.undo();
        due.is("dry stays dry", x.count(5), 0);
        due.is("no ice stays none", x.tree(0, 4), 0);
    }

    private static void undoneBehindYears() {
        WindHarp x = Due.harp("tree 20 4 0 3; tree 30 4 0 2;");
        Due.orders(x, "cut 0 89; let 1 5; ice 0;");
        due.is("length", x.tree(0, 0), 10);
        x.go(4);
        due.is("with ice", x.tree(0, 0), 10);
        due.is("without ice", x.tree(1, 0), 43);
        x.undo();
        x.go(2);
        due.is("without ice", x.tree(0, 0), 16);
        x.undo();
        due.is("as much less as it gave", x.tree(1, 0), 42);
        x.undo();
        due.is("as much more as it took off, 10", x.tree(0, 0), 26);
        due.is("years stay", x.count(4), 6);
    }

    private static void undoneWithinBounds() {
        WindHarp x = Due.harp("tree 99 4 0 5; tree 10 4 0 0;");
        Due.orders(x, "cut 0 50;");
        for (int i = 0; i < 4; i++) {
            x.go(60);
        }
        due.is("999 at most", x.tree(0, 0), 999);
        x.undo();
        due.is("999 still", x.tree(0, 0), 999);
        Due.orders(x, "cut 0 4; let 0 89;");
        due.is("let to 999", x.tree(0, 0), 999);
        x.undo();
        due.is("it gave 4 alone", x.tree(0, 0), 995);
        Due.orders(x, "let 1 20; cut 1 19; let 1 9; cut 1 5; cut 1 89;");
        due.is("length", x.tree(1, 0), 10);
        x.undo();
        due.is("it took 5 off", x.tree(1, 0), 15);
    }

    private static void yearsGo() {
        due.is("go(1) without a wood", new WindHarp().go(1), Due.STATE);
        due.is("go(0) without a wood", new WindHarp().go(0), Due.STATE);
        WindHarp x = Due.harp("tree 20 4 0 0; tree 30 4 0 5; tree 40 4 0 4; tree 50 4 0 3;");
        due.is("go(0)", x.go(0), Due.BAD);
        due.is("go(-1)", x.go(-1), Due.BAD);
        due.is("go(61)", x.go(61), Due.BAD);
        due.is("count(4)", x.count(4), 0);
        Due.orders(x, "ice 2; fell 3;");
        due.is("go(1)", x.go(1), 1);
        due.is("go(60)", x.go(60), 61);
        due.is("count(4)", x.count(4), 61);
        due.is("grows 0", x.tree(0, 0), 20);
        due.is("grows 5", x.tree(1, 0), 335);
        due.is("ice", x.tree(2, 0), 40);
        due.is("felled", x.tree(3, 0), 50);
    }

    private static void treeRefuses() {
        WindHarp x = Due.harp("tree 20 4 0 0; tree 30 4 0 5;");
        due.is("tree(-1, 0)", x.tree(-1, 0), Due.BAD);
        due.is("tree(2, 0)", x.tree(2, 0), Due.BAD);
        due.is("tree(0, -1)", x.tree(0, -1), Due.BAD);
        due.is("tree(0, 7)", x.tree(0, 7), Due.BAD);
        due.is("tree(0, 0) without a wood", new WindHarp().tree(0, 0), Due.BAD);
    }

    private static void whatSounds() {
        StringBuilder text = new StringBuilder();
        for (int side = 0; side < 8; side++) {
            text.append("tree ").append(10 + side).append(" 6 ").append(side).append(" 0;");
        }
        for (int side = 0; side < 6; side++) {
            text.append("wind ").append(side).append(" 3 1;");
        }
        WindHarp x = Due.harp(text.toString());
        due.all("wind 0", Due.sound(x, 0), 600, 545, 352);
        due.all("wind 1", Due.sound(x, 1), 600, 545, 500);
        due.all("wind 5", Due.sound(x, 5), 428, 400, 375);
        Due.wood(x, "tree 10 6 0 0; tree 11 6 6 0; tree 12 6 7 0; tree 13 6 5 0; wind 7 3 1;");
        due.all("wind of side 7", Due.sound(x, 0), 600, 545, 500);
        Due.wood(x, "tree 10 1 0 0; tree 10 2 0 0; tree 10 3 0 0; tree 10 4 0 0; tree 10 5 0 0; tree 10 6 0 0;"
            + "wind 0 1 1; wind 0 2 1; wind 0 3 1;");
        due.all("strength 1", Due.sound(x, 0), 100, 200, 300);
        due.all("strength 2", Due.sound(x, 1), 100, 200, 300, 400, 500);
        due.all("strength 3", Due.sound(x, 2), 100, 200, 300, 400, 500, 600);
        Due.orders(x, "ice 0; fell 2; ice 3; thaw 3; turn 1 4;");
        due.all("with ice, felled, turned", Due.sound(x, 2), 400, 500, 600);
        due.is("sound(-1, 0)", x.sound(-1, 0), Due.BAD);
        due.is("sound(3, 0)", x.sound(3, 0), Due.BAD);
        due.is("sound(0, -1)", x.sound(0, -1), Due.BAD);
        due.is("sound(0, max)", x.sound(0, Integer.MAX_VALUE), Due.NONE);
        due.is("sound without a wood", new WindHarp().sound(0, 0), Due.BAD);
    }

    private static void tones() {
        WindHarp x = Due.harp("tree 10 20 0 0; tree 99 1 0 0; tree 13 2 0 0; tree 20 2 0 0; tree 51 10 0 0; tree 67 20 0 0; wind 0 20 1;");
        due.all("dry", Due.sound(x, 0), 2000, 10, 153, 100, 196, 298);
        Due.orders(x, "wet;");
        due.all("wet", Due.sound(x, 0), 1900, 10, 148, 95, 191, 288);
        due.is("tree(0, 6)", x.tree(0, 6), 1900);
        Due.orders(x, "dry;");
        due.all("dry again", Due.sound(x, 0), 2000, 10, 153, 100, 196, 298);
    }

    private static void images() {
        WindHarp x = Due.harp("tree 20 4 0 1; tree 30 4 0 2; wind 0 5 9; tune 1 2 3;");
        Due.orders(x, "cut 0 5; ice 1; wet;");
        x.go(3);
        due.is("image(0)", x.image(0), 1);
        Due.items(x, 2, 2, 77);
        Due.wood(x, "tree 50 1 3 0; wind 3 9 1; wind 4 9 1;");
        Due.orders(x, "dry; turn 0 0; let 0 7;");
        due.is("turned to 0", x.tree(0, 2), 0);
        x.undo();
        x.undo();
        x.undo();
        due.is("image(1)", x.image(1), 1);
        Due.feed(x, "abc");
        due.is("restore(0)", x.restore(0), 1);
        int[] counts = {1, 2, 1, 3, 3, 1, 3, 3};
        for (int what = 0; what < 8; what++) {
            due.is("count(" + what + ") restored", x.count(what), counts[what]);
        }
        due.is("length", x.tree(0, 0), 18);
        due.is("pull", x.tree(0, 1), 4);
        due.is("ice", x.tree(1, 4), 1);
        due.is("undo()", x.undo(), 2);
        due.is("undo()", x.undo(), 1);
        due.is("undo()", x.undo(), 0);
        due.is("undone", x.tree(0, 0), 23);
        due.is("undone", x.tree(1, 4), 0);
        due.is("undone", x.count(5), 0);
        x.go(7);
        due.is("restore(0) again", x.restore(0), 1);
        due.is("the image is as it was", x.tree(0, 0), 18);
        due.is("its years", x.count(4), 3);
        due.is("its orders", x.count(6), 3);
        due.is("restore(1)", x.restore(1), 1);
        due.is("another wood", x.tree(0, 0), 50);
        due.is("its winds", x.count(2), 2);
        due.is("its tune", x.count(3), 0);
        due.is("the tape is not of an image", x.orders(), Due.faultAt(0));
        Due.orders(x, "fell 0;");
        due.is("image(1) anew", x.image(1), 1);
        x.undo();
        x.restore(1);
        due.is("felled", x.tree(0, 5), 1);
        due.is("the winds of an image", x.sound(1, 0), Due.NONE);
    }

    private static void imagesRefuse() {
        WindHarp x = new WindHarp();
        due.is("image(-1)", x.image(-1), Due.BAD);
        due.is("image(2)", x.image(2), Due.BAD);
        due.is("image(0)", x.image(0), Due.STATE);
        due.is("restore(-1)", x.restore(-1), Due.BAD);
        due.is("restore(2)", x.restore(2), Due.BAD);
        due.is("restore(1)", x.restore(1), Due.STATE);
        Due.wood(x, "tree 20 4 0 1;");
        due.is("restore(0)", x.restore(0), Due.STATE);
        x.image(1);
        due.is("restore(0) still", x.restore(0), Due.STATE);
        due.is("restore(1)", x.restore(1), 1);
    }
}
