import java.io.IOException;
import java.nio.file.Files;
import java.nio.file.Path;
import java.util.Random;

/** The source's signs, and that no call ever throws, for arguments of every sort in every state. */
public final class LanguageTest {
    private static final Due due = new Due("LanguageTest");
    private static final int ODD_RUNS = 300, ODD_CALLS = 1500;
    private static final int[] ODD = {Integer.MIN_VALUE, -1000000, -61, -2, -1, 0, 1, 2, 5, 7, 8, 11, 12, 13, 40, 41, 60, 99,
        100, 999, Integer.MAX_VALUE};

    public static void main(String[] args) throws IOException {
        String source = Files.readString(Path.of("src/main/java/WindHarp.java"));
        due.holds("signs 1 to 127 alone", source.chars().allMatch(c -> c < 128));
        for (String line : source.split("\n")) {
            due.holds("a line of 120 signs at most: " + line, line.length() <= 120);
        }
        noCallThrows();
        due.end();
    }

    private static void noCallThrows() {
        Random random = new Random(29);
        String[] texts = {"tree 20 4 0 1; tree 21 4 1 2; tree 22 5 7 0; wind 0 9 5; wind 1 20 9; tune 200 190;", "cut 0 5;wet;",
            "ice 1; fell 0; let 2 89; turn 1 7;", "tree", ";", "1111", "\u00ff\u0000"};
        for (int run = 0; run < ODD_RUNS; run++) {
            WindHarp x = new WindHarp();
            for (int i = 0; i < ODD_CALLS; i++) {
                if (random.nextInt(12) == 0) {
                    Due.feed(x, texts[random.nextInt(texts.length)]);
                }
                int[] p = new int[6];
                for (int k = 0; k < p.length; k++) {
                    p[k] = random.nextInt(3) > 0 ? random.nextInt(4) : ODD[random.nextInt(ODD.length)];
                }
                call(x, random.nextInt(28), p, random.nextLong());
            }
        }
        due.holds("no call threw", true);
    }

    private static int call(WindHarp x, int which, int[] p, long w) {
        return switch (which) {
            case 0 -> x.row(p[0], p[1], p[2]);
            case 1 -> x.set(p[0], p[1], p[2]);
            case 2 -> x.copy(p[0], p[1], p[2], p[3], p[4]);
            case 3 -> x.drop(p[0]);
            case 4 -> x.feed(w, p[0]);
            case 5 -> x.wood();
            case 6 -> x.orders();
            case 7 -> x.fault();
            case 8 -> x.undo();
            case 9 -> x.go(p[0]);
            case 10 -> x.tree(p[0], p[1]);
            case 11 -> x.sound(p[0], p[1]);
            case 12 -> x.slips(p[0], p[1]);
            case 13 -> x.cheapest(p[0], p[1], p[2], p[3], p[4], p[5]);
            case 14 -> x.tuned(p[0], p[1], p[2]);
            case 15 -> x.plays(p[0], p[1], p[2]);
            case 16 -> x.buzz(p[0]);
            case 17 -> x.birds(p[0], p[1], p[2], p[3], p[4]);
            case 18 -> x.hung(p[0], p[1], p[2], p[3]);
            case 19 -> x.missing(p[0], p[1], p[2], p[3]);
            case 20 -> x.image(p[0]);
            case 21 -> x.restore(p[0]);
            case 22 -> x.kind(p[0], p[1]);
            case 23 -> x.as(p[0], p[1], p[2]);
            case 24 -> x.ask(p[0], p[1], p[2]);
            case 25 -> x.trace(p[0]);
            case 26 -> x.count(p[0]);
            default -> x.status();
        };
    }
}
