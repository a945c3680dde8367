import java.util.Random;

/** All promises together: long runs of calls, each answer beside the Model's. */
public final class RunsTest {
    private static final int RUNS = 1500;
    private static final int CALLS = 512;
    private static final int[] EDGES = {Integer.MIN_VALUE, -3, -2, -1, 0, 1, 2, 6, 7, 8, 59, 60, 61, 62, 255, 256, 992, Integer.MAX_VALUE};

    public static void main(String[] args) {
        Due.sentence("all promises together, up to an object's 512th call");
        Random random = new Random(20261115L);
        for (int run = 0; run < RUNS && !Due.anyWrong(); run++) {
            oneRun(random, run % 3 == 0 ? run / 3 - 250 : random.nextLong());
        }
        Due.end();
    }

    private static void oneRun(Random random, long seed) {
        BuildDrawer drawer = new BuildDrawer(seed);
        Model model = new Model(seed);
        int largest = 1 + random.nextInt(60);
        for (int call = 0; call < CALLS; call++) {
            oneCall(random, drawer, model, "seed " + seed + ", call " + call + ": ", largest);
        }
    }

    private static int number(Random random, int below) {
        return random.nextInt(12) == 0 ? EDGES[random.nextInt(EDGES.length)] : random.nextInt(below);
    }

    private static int bits(Random random) {
        return switch (random.nextInt(4)) {
            case 0 -> random.nextInt();
            case 1 -> 1 << random.nextInt(10);
            case 2 -> (1 << random.nextInt(8)) | (1 << random.nextInt(8));
            default -> number(random, 256);
        };
    }

    private static void oneCall(Random random, BuildDrawer drawer, Model model, String at, int largest) {
        int choice = random.nextInt(30);
        if (choice < 2) {
            int kind = number(random, 8);
            int size = number(random, largest);
            Due.is(at + "draw(" + kind + ", " + size + ")", drawer.draw(kind, size), model.draw(kind, size));
        } else if (choice < 12) {
            int i = number(random, largest + 2);
            int what = number(random, 7);
            Due.is(at + "part(" + i + ", " + what + ")", drawer.part(i, what), model.part(i, what));
        } else if (choice < 19) {
            int i = number(random, largest * 15 + 30);
            Due.is(at + "letter(" + i + ")", drawer.letter(i), model.letter(i));
        } else if (choice < 22) {
            int bits = bits(random);
            boolean stays = random.nextInt(4) != 0;
            drawer.verdict(bits, stays);
            model.verdict(bits, stays);
        } else if (choice < 24) {
            Due.is(at + "shorter()", drawer.shorter(), model.shorter());
        } else if (choice < 27) {
            int i = number(random, largest + 2);
            Due.is(at + "left(" + i + ")", drawer.left(i), model.left(i));
        } else if (choice < 29) {
            Due.is(at + "minimal()", drawer.minimal(), model.minimal());
        } else {
            long other = random.nextLong();
            int kind = number(random, 8);
            int size = number(random, largest);
            Due.is(at + "same(" + other + ", " + kind + ", " + size + ")",
                    drawer.same(other, kind, size), model.same(other, kind, size));
        }
    }
}
