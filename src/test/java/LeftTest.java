/** Promise 7: the i-th PART that is LEFT. */
public final class LeftTest {
    public static void main(String[] args) {
        Due.sentence("Promise 7: the i-th PART that is LEFT (from 0)");
        fromZero();
        Due.sentence("Promise 7: NONE if there are not so many");
        notSoMany();
        Due.end();
    }

    private static void fromZero() {
        BuildDrawer drawer = new BuildDrawer(0L);
        drawer.draw(1, 7);
        for (int i = 0; i < 9; i++) {
            Due.is("left(" + i + ") of all", drawer.left(i), i);
        }
        drawer.verdict(64 | 2 | 128 | 4, true);
        drawer.shorter();
        int[] four = {0, 1, 4, 6};
        for (int i = 0; i < four.length; i++) {
            Due.is("left(" + i + ") of four", drawer.left(i), four[i]);
        }
        drawer.verdict(128, true);
        drawer.shorter();
        Due.is("left(0) of one", drawer.left(0), 4);
        drawer.draw(3, 60);
        Due.is("left(61) of the largest size", drawer.left(61), 61);
        drawer.draw(3, 0);
        Due.is("left(1) of the smallest size", drawer.left(1), 1);
    }

    private static void notSoMany() {
        BuildDrawer drawer = new BuildDrawer(0L);
        noneBehind(drawer, 0);
        drawer.draw(1, 7);
        noneBehind(drawer, 9);
        drawer.verdict(64 | 2 | 128 | 4, true);
        drawer.shorter();
        noneBehind(drawer, 4);
        drawer.verdict(128, true);
        drawer.shorter();
        noneBehind(drawer, 1);
        drawer.verdict(0, true);
        drawer.shorter();
        noneBehind(drawer, 0);
        drawer.draw(3, 60);
        noneBehind(drawer, 62);
        drawer.draw(3, 0);
        noneBehind(drawer, 2);
    }

    private static void noneBehind(BuildDrawer drawer, int count) {
        int[] wrong = {-1, -2, count, count + 1, 62, 63, Integer.MIN_VALUE, Integer.MAX_VALUE};
        for (int i : wrong) {
            Due.is("left(" + i + ") of " + count, drawer.left(i), BuildDrawer.NONE);
        }
    }
}
