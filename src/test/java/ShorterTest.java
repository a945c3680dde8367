/** Promise 6: what can GO goes, from the last to the first and again. Marks of the drawing: 64 2 64 2 128 64 4 64 64. */
public final class ShorterTest {
    public static void main(String[] args) {
        Due.sentence("Promise 6: if the VERDICT HOLDS of those LEFT");
        onlyWhatIsLeftCounts();
        Due.sentence("Promise 6: from the last PART to the first each that can GO goes");
        fromTheLastToTheFirst();
        whatIsNeededStays();
        Due.sentence("Promise 6: and again, till none goes any more");
        againChangesNothing();
        noneCanGoAnyMore();
        theLargestOnesGo();
        Due.sentence("Promise 6: how many are LEFT");
        howManyAreLeft();
        Due.sentence("Promise 6: if it doesn't HOLD, all PARTS are LEFT again");
        allAreLeftAgain();
        allOfTheLargestAndTheSmallest();
        nothingIsAllOfNothing();
        Due.end();
    }

    private static void due(BuildDrawer drawer, int bits, boolean stays, int count, String left) {
        drawer.verdict(bits, stays);
        String call = "shorter() by verdict(" + bits + ", " + stays + ")";
        Due.is(call, drawer.shorter(), count);
        Due.is("left after " + call, Due.leftOf(drawer), left);
    }

    private static void fromTheLastToTheFirst() {
        due(Due.drawn(0L, 1, 7), 64, true, 1, "0 ");
        due(Due.drawn(0L, 1, 7), 2, true, 2, "0 1 ");
        due(Due.drawn(0L, 1, 7), 64 | 2, true, 2, "0 1 ");
        due(Due.drawn(0L, 1, 7), 64 | 2 | 128 | 4, true, 4, "0 1 4 6 ");
        due(Due.drawn(0L, 1, 7), 0, true, 0, "");
    }

    private static void whatIsNeededStays() {
        due(Due.drawn(0L, 1, 7), 4, true, 2, "0 6 ");
        BuildDrawer steps = new BuildDrawer(0L);
        steps.draw(4, 7);
        due(steps, 16, true, 5, "0 2 3 5 6 ");
    }

    private static void allAreLeftAgain() {
        BuildDrawer drawer = Due.drawn(0L, 1, 7);
        due(drawer, 128, true, 1, "4 ");
        due(drawer, 4, true, 9, "0 1 2 3 4 5 6 7 8 ");
        due(drawer, 4, true, 2, "0 6 ");
        due(drawer, 4, false, 9, "0 1 2 3 4 5 6 7 8 ");
        due(drawer, 1, true, 9, "0 1 2 3 4 5 6 7 8 ");
        due(drawer, 1, false, 0, "");
        due(drawer, 0, false, 9, "0 1 2 3 4 5 6 7 8 ");
    }

    private static void onlyWhatIsLeftCounts() {
        BuildDrawer drawer = Due.drawn(0L, 1, 7);
        due(drawer, 64 | 2 | 128 | 4, true, 4, "0 1 4 6 ");
        due(drawer, 128 | 4, true, 3, "0 4 6 ");
        due(drawer, 2, false, 0, "");
    }

    private static void againChangesNothing() {
        BuildDrawer drawer = Due.drawn(0L, 1, 7);
        due(drawer, 128 | 4, true, 3, "0 4 6 ");
        due(drawer, 128 | 4, true, 3, "0 4 6 ");
        due(drawer, 0, true, 0, "");
        due(drawer, 0, true, 0, "");
    }

    private static void noneCanGoAnyMore() {
        for (int bits = 0; bits < 256; bits++) {
            BuildDrawer drawer = new BuildDrawer(bits);
            drawer.draw(bits % 8, 60);
            drawer.verdict(bits, true);
            int count = drawer.shorter();
            Due.is("minimal() after shorter() by verdict(" + bits + ", true)", drawer.minimal(), true);
            Due.is("shorter() again", drawer.shorter(), count);
        }
    }

    private static void theLargestOnesGo() {
        for (int kind = 0; kind < 8; kind++) {
            BuildDrawer drawer = new BuildDrawer(5L);
            drawer.draw(kind, 60);
            Due.is("shorter() of KIND " + kind + " of size 60", drawer.shorter(), 0);
            drawer.draw(kind, 60);
            drawer.verdict(255, true);
            Model model = new Model(5L);
            model.draw(kind, 60);
            model.verdict(255, true);
            Due.is("shorter() by all bits of KIND " + kind, drawer.shorter(), model.shorter());
            for (int i = 0; i < 63; i++) {
                Due.is("left(" + i + ") after it", drawer.left(i), model.left(i));
            }
            whatIsLeftLoads(drawer, kind);
        }
    }

    private static void howManyAreLeft() {
        int[] sizes = {0, 1, 59, 60};
        for (int size : sizes) {
            BuildDrawer drawer = new BuildDrawer(0L);
            drawer.draw(3, size);
            drawer.verdict(0, false);
            Due.is("shorter() of all", drawer.shorter(), size + 2);
            drawer.verdict((int) drawer.part(0, 4), true);
            int count = drawer.shorter();
            Due.is("the one behind those LEFT", drawer.left(count), BuildDrawer.NONE);
            Due.is("the last one LEFT is there", drawer.left(count - 1) != BuildDrawer.NONE, true);
            drawer.verdict(0, true);
            Due.is("shorter() of none", drawer.shorter(), 0);
        }
    }

    private static void allOfTheLargestAndTheSmallest() {
        BuildDrawer drawer = new BuildDrawer(0L);
        int[] sizes = {60, 0, 60};
        for (int size : sizes) {
            drawer.draw(1, size);
            drawer.verdict(0, true);
            Due.is("shorter() to nothing", drawer.shorter(), 0);
            drawer.verdict(0, false);
            Due.is("shorter() to all of SIZE " + size, drawer.shorter(), size + 2);
            Due.is("the last one LEFT", drawer.left(size + 1), size + 1);
            Due.is("the one behind it", drawer.left(size + 2), BuildDrawer.NONE);
        }
    }

    private static void nothingIsAllOfNothing() {
        BuildDrawer drawer = new BuildDrawer(0L);
        due(drawer, 255, true, 0, "");
        due(drawer, 0, false, 0, "");
        due(drawer, 0, true, 0, "");
    }

    private static void whatIsLeftLoads(BuildDrawer drawer, int kind) {
        for (int i = 0; i < 62; i++) {
            long need = drawer.part(i, 3);
            boolean loads = drawer.part(i, 5) == 0 || need == BuildDrawer.NONE || drawer.part((int) need, 5) == 1;
            Due.is("PART " + i + " of KIND " + kind + " loads", loads, true);
        }
    }
}
