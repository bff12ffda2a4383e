/** Compares answers with those that are due, and ends a test with exit code 1 if one was wrong. */
final class Due {
    static final int NONE = -1000000, BAD = -1000001, STATE = -1000002, FULL = -1000003;
    static final int NULL = -1000011, PLACE = -1000012, KIND = -1000013, SIZE = -1000014, STORE = -1000015;

    /** The place of a fault as wood() and orders() answer it. */
    static int faultAt(int place) {
        return -1000100 - place;
    }

    private final String name;
    private String sentence = "";
    private int wrong;
    private int right;

    Due(String name) {
        this.name = name;
    }

    /** The sentence of the document that is tested from here on: told with what is wrong. */
    void says(String words) {
        sentence = " (" + words + ")";
    }

    void is(String call, long got, long due) {
        if (got == due) {
            right++;
            return;
        }
        wrong++;
        if (wrong <= 20) {
            System.out.println(name + ": " + call + " answered " + got + ", due is " + due + sentence);
        }
    }

    void all(String call, int[] got, int... due) {
        is(call + " length", got.length, due.length);
        for (int i = 0; i < got.length && i < due.length; i++) {
            is(call + " [" + i + "]", got[i], due[i]);
        }
    }

    void holds(String what, boolean truth) {
        is(what, truth ? 1 : 0, 1);
    }

    void end() {
        System.out.println(name + ": " + right + " as due, " + wrong + " not");
        if (wrong != 0) {
            System.exit(1);
        }
    }

    /** Puts a text on the tape, as many bytes a call as fit. */
    static int feed(WindHarp harp, String text) {
        int answer = harp.count(7);
        for (int at = 0; at < text.length(); at += 8) {
            int n = Math.min(8, text.length() - at);
            long w = 0;
            for (int i = 0; i < n; i++) {
                w = w << 8 | text.charAt(at + i) & 0xff;
            }
            answer = harp.feed(w, n);
        }
        return answer;
    }

    static int wood(WindHarp harp, String text) {
        feed(harp, text);
        return harp.wood();
    }

    static int orders(WindHarp harp, String text) {
        feed(harp, text);
        return harp.orders();
    }

    static WindHarp harp(String wood) {
        WindHarp harp = new WindHarp();
        if (wood(harp, wood) < 1) {
            throw new IllegalStateException("no wood: " + wood);
        }
        return harp;
    }

    static void items(WindHarp harp, int row, int lane, int... items) {
        harp.row(row, lane, items.length);
        for (int i = 0; i < items.length; i++) {
            harp.set(row, i, items[i]);
        }
    }

    static int[] sound(WindHarp harp, int wind) {
        int n = 0;
        while (harp.sound(wind, n) != NONE) {
            n++;
        }
        int[] tones = new int[n];
        for (int k = 0; k < n; k++) {
            tones[k] = harp.sound(wind, k);
        }
        return tones;
    }

    /** Item i of a row, 0 to 100, found by how far it is from the one tone, 100, of wind 0. */
    static int item(WindHarp harp, int row, int i) {
        int least = 0;
        int most = 100;
        while (least < most) {
            int t = (least + most) / 2;
            if (harp.birds(0, row, i, 1, t) == 0) {
                most = t;
            } else {
                least = t + 1;
            }
        }
        return 100 - least;
    }
}
