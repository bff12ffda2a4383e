/** Two objects made alike: if one is refused a call, nothing may tell them apart afterwards. */
final class Twins {
    interface Call {
        int on(WindHarp x);
    }

    private static final String WOOD = "tree 30 3 0 1; tree 29 3 1 2; tree 40 4 7 0; tree 50 9 4 3;"
        + "wind 0 9 20; wind 4 9 30; tune 100 103 95;";

    private static final int[] ALL = {0, 1, 2, 3, 4, 5, 6}, BY_ORDERS = {0, 2, 4, 5};

    private Twins() {
    }

    /** Something of all that there is: a wet, old wood, orders, an image, rows, a fault, a finding, a trace, a tape. */
    static WindHarp furnished() {
        WindHarp x = Due.harp(WOOD);
        Due.orders(x, "cut 1 3; ice 2;");
        x.image(0);
        x.go(2);
        Due.orders(x, "wet; let 0 7; turn 3 5; fell 2;");
        Due.orders(x, "wet; cut 0 0;");
        Due.items(x, 0, 2, 100, 90, 80);
        Due.items(x, 1, 0, 70, 60);
        x.row(2, 1, 0);
        x.ask(0, 0, 0);
        x.as(0, 0, 5);
        Due.feed(x, "dry;");
        return x;
    }

    /** The call answers as is due, and changes nothing, but for the number of a finding. */
    static void unchanged(Due due, String call, Call refused, int answer) {
        WindHarp one = furnished();
        WindHarp other = furnished();
        due.is(call, refused.on(one), answer);
        boolean isFinding = answer < -1000010 && answer > -1000016;
        due.is("status() behind " + call, one.status(), isFinding ? -1000010 - answer : 3);
        due.is("fault() behind " + call, one.fault(), 2);
        due.is("the tape behind " + call, one.count(7), 4);
        due.is("the text on it behind " + call, one.orders(), other.orders());
        due.holds("nothing changes by " + call, all(one).equals(all(other)));
    }

    /** The text's fault is answered; nothing changes but the tape, and what fault() tells. */
    static void unchangedByFault(Due due, String text, Call read, int place, int number) {
        WindHarp one = furnished();
        WindHarp other = furnished();
        one.orders();
        other.orders();
        Due.feed(one, text);
        due.is("\"" + text + "\"", read.on(one), Due.faultAt(place));
        due.is("fault() of \"" + text + "\"", one.fault(), number);
        due.is("tape behind \"" + text + "\"", one.count(7), 0);
        due.is("status() behind \"" + text + "\"", one.status(), 3);
        due.holds("nothing changes by \"" + text + "\"", all(one).equals(all(other)));
    }

    /** All that can be seen but status(), fault(), the tape; what looks uses the object up: some 400 of its 512 calls. */
    static String all(WindHarp x) {
        StringBuilder seen = new StringBuilder();
        for (int i = 0; i < 6; i++) {
            tell(seen, x.trace(i));
        }
        wood(seen, x);
        rows(seen, x);
        undone(seen, x);
        for (int k = 0; k < 2; k++) {
            int answer = x.restore(k);
            tell(seen, answer);
            if (answer == 1) {
                wood(seen, x);
                undone(seen, x);
            }
        }
        return seen.toString();
    }

    private static void tell(StringBuilder seen, int answer) {
        seen.append(answer).append(' ');
    }

    private static void wood(StringBuilder seen, WindHarp x) {
        for (int what = 0; what < 7; what++) {
            tell(seen, x.count(what));
        }
        trees(seen, x, ALL);
        for (int wind = 0; wind < 2; wind++) {
            for (int k = 0; k < 3; k++) {
                tell(seen, x.sound(wind, k));
            }
            tell(seen, x.slips(wind, 0));
            tell(seen, x.slips(wind, 5));
            tell(seen, x.plays(1, 30, wind));
        }
    }

    private static void trees(StringBuilder seen, WindHarp x, int[] whats) {
        int trees = x.count(1);
        for (int tree = 0; tree < trees; tree++) {
            for (int what : whats) {
                tell(seen, x.tree(tree, what));
            }
        }
    }

    /** What an item is, is told by how many steps it is from a tone; its lane by what it can be. */
    private static void rows(StringBuilder seen, WindHarp x) {
        for (int row = 0; row < 3; row++) {
            for (int i = 0; i < 4; i++) {
                for (int t = 0; t < 50; t += 10) {
                    tell(seen, x.birds(0, row, i, 1, t));
                }
            }
            tell(seen, x.set(row, 0, 70000));
        }
        for (int row = 0; row < 8; row++) {
            tell(seen, x.drop(row));
        }
    }

    private static void undone(StringBuilder seen, WindHarp x) {
        int left = x.undo();
        while (left >= 0) {
            tell(seen, left);
            tell(seen, x.count(5));
            trees(seen, x, BY_ORDERS);
            left = x.undo();
        }
    }
}
