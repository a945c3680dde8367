/** Promise 1: a seed, and nothing is drawn. */
public final class NewObjectTest {
    public static void main(String[] args) {
        nothingIsDrawn(0L);
        nothingIsDrawn(Long.MIN_VALUE);
        nothingIsDrawn(Long.MAX_VALUE);
        theSeedCounts();
        objectsAreApart();
        Due.end();
    }

    private static void nothingIsDrawn(long seed) {
        BuildDrawer drawer = new BuildDrawer(seed);
        for (int what = -1; what <= 7; what++) {
            Due.is("part(0, " + what + ") of a new object", drawer.part(0, what), -1);
        }
        Due.is("letter(0) of a new object", drawer.letter(0), BuildDrawer.NONE);
        Due.is("left(0) of a new object", drawer.left(0), BuildDrawer.NONE);
        Due.is("minimal() of a new object", drawer.minimal(), true);
        Due.is("shorter() of a new object", drawer.shorter(), 0);
        drawer.verdict(255, true);
        Due.is("minimal() of nothing", drawer.minimal(), true);
        Due.is("shorter() of nothing, where the verdict does not hold", drawer.shorter(), 0);
        drawer.verdict(255, false);
        Due.is("shorter() of nothing, where the verdict holds", drawer.shorter(), 0);
        Due.is("draw(9, 0) of a new object", drawer.draw(9, 0), -2);
        Due.is("part(0, 0) after no drawing", drawer.part(0, 0), -1);
        Due.is("letter(0) after no drawing", drawer.letter(0), BuildDrawer.NONE);
    }

    private static void theSeedCounts() {
        due(0L, "F0(807,24);T1(236,5)<0;");
        due(1L, "F0(704,81);T1(105,4)<0;");
        due(-1L, "F0(558,67);T1(15,5)<0;");
        due(2026L, "F0(386,80);T1(534,0)<0;");
        due(Long.MIN_VALUE, "F0(631,48);T1(60,5)<0;");
    }

    private static void due(long seed, String text) {
        BuildDrawer drawer = new BuildDrawer(seed);
        drawer.draw(0, 0);
        Due.is("the text of draw(0, 0) by seed " + seed, Due.textOf(drawer), text);
    }

    private static void objectsAreApart() {
        BuildDrawer one = new BuildDrawer(0L);
        one.draw(0, 0);
        BuildDrawer two = new BuildDrawer(1L);
        two.draw(1, 7);
        two.verdict(255, false);
        Due.is("the text of an object after another one drew", Due.textOf(one), "F0(807,24);T1(236,5)<0;");
        Due.is("shorter() by its own verdict", one.shorter(), 0);
    }
}
