/** Promise 1: a seed, and nothing is drawn. */
public final class NewObjectTest {
    public static void main(String[] args) {
        Due.sentence("Promise 1: nothing is drawn");
        long[] seeds = {0L, 1L, -1L, Long.MIN_VALUE, Long.MAX_VALUE};
        for (long seed : seeds) {
            eachAsTheFirstCall(seed);
            nothingIsDrawn(seed);
        }
        Due.sentence("Promise 1: a seed");
        theSeedCounts();
        objectsAreApart();
        Due.end();
    }

    private static void eachAsTheFirstCall(long seed) {
        int[] edges = {Integer.MIN_VALUE, -1, 0, 1, 61, 62, Integer.MAX_VALUE};
        for (int i : edges) {
            for (int what = 0; what <= 6; what++) {
                Due.is("part(" + i + ", " + what + ") as the first call", new BuildDrawer(seed).part(i, what), -1);
            }
            Due.is("letter(" + i + ") as the first call", new BuildDrawer(seed).letter(i), BuildDrawer.NONE);
            Due.is("left(" + i + ") as the first call", new BuildDrawer(seed).left(i), BuildDrawer.NONE);
        }
        Due.is("shorter() as the first call", new BuildDrawer(seed).shorter(), 0);
        Due.is("minimal() as the first call", new BuildDrawer(seed).minimal(), true);
        Due.is("same(seed, 7, 60) as the first call", new BuildDrawer(seed).same(seed, 7, 60), true);
        Due.is("draw(8, 0) as the first call", new BuildDrawer(seed).draw(8, 0), -2);
    }

    private static void nothingIsDrawn(long seed) {
        BuildDrawer drawer = new BuildDrawer(seed);
        for (int what = -1; what <= 7; what++) {
            Due.is("part(0, " + what + ") of a new object", drawer.part(0, what), -1);
        }
        Due.is("letter(0) of a new object", drawer.letter(0), BuildDrawer.NONE);
        Due.is("left(0) of a new object", drawer.left(0), BuildDrawer.NONE);
        Due.is("minimal() of a new object", drawer.minimal(), true);
        Due.is("shorter() of a new object", drawer.shorter(), 0);
        drawer.verdict(255, true);
        Due.is("minimal() of nothing", drawer.minimal(), true);
        Due.is("shorter() of nothing, where the verdict does not hold", drawer.shorter(), 0);
        drawer.verdict(255, false);
        Due.is("shorter() of nothing, where the verdict holds", drawer.shorter(), 0);
        Due.is("minimal() of nothing, where the verdict holds", drawer.minimal(), true);
        Due.is("draw(9, 0) of a new object", drawer.draw(9, 0), -2);
        Due.is("part(0, 0) after no drawing", drawer.part(0, 0), -1);
        Due.is("letter(0) after no drawing", drawer.letter(0), BuildDrawer.NONE);
    }

    private static void theSeedCounts() {
        due(0L, "F0(807,24);T1(236,5)<0;");
        due(1L, "F0(704,81);T1(105,4)<0;");
        due(-1L, "F0(558,67);T1(15,5)<0;");
        due(2026L, "F0(386,80);T1(534,0)<0;");
        due(Long.MIN_VALUE, "F0(631,48);T1(60,5)<0;");
    }

    private static void due(long seed, String text) {
        BuildDrawer drawer = new BuildDrawer(seed);
        drawer.draw(0, 0);
        Due.is("the text of draw(0, 0) by seed " + seed, Due.textOf(drawer), text);
    }

    private static void objectsAreApart() {
        BuildDrawer one = new BuildDrawer(0L);
        one.draw(0, 0);
        BuildDrawer two = new BuildDrawer(1L);
        two.draw(1, 7);
        two.verdict(255, false);
        Due.is("the text of an object after another one drew", Due.textOf(one), "F0(807,24);T1(236,5)<0;");
        Due.is("shorter() by its own verdict", one.shorter(), 0);
    }
}
