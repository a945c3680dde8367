/** Promise 8: whether no PART can GO. Marks of the drawing: 64 2 64 2 128 64 4 64 64. */
public final class MinimalTest {
    public static void main(String[] args) {
        beforeAndAfterShorter();
        whatIsNeededCannotGo();
        aVerdictThatDoesNotStay();
        onlyWhatIsLeftCanGo();
        minimalChangesNothing();
        Due.end();
    }

    private static BuildDrawer drawn() {
        BuildDrawer drawer = new BuildDrawer(0L);
        drawer.draw(1, 7);
        return drawer;
    }

    private static void due(BuildDrawer drawer, int bits, boolean stays, boolean minimal) {
        drawer.verdict(bits, stays);
        Due.is("minimal() by verdict(" + bits + ", " + stays + ")", drawer.minimal(), minimal);
    }

    private static void beforeAndAfterShorter() {
        for (int bits = 0; bits < 256; bits++) {
            BuildDrawer drawer = drawn();
            boolean holds = (bits & ~(64 | 2 | 128 | 4)) == 0;
            due(drawer, bits, true, !holds);
            drawer.shorter();
            due(drawer, bits, true, true);
        }
    }

    private static void whatIsNeededCannotGo() {
        BuildDrawer drawer = new BuildDrawer(0L);
        drawer.draw(4, 0);
        due(drawer, 2, true, true);
        due(drawer, 32, true, false);
        drawer.draw(0, 0);
        due(drawer, 8, true, true);
        due(drawer, 2, true, false);
    }

    private static void aVerdictThatDoesNotStay() {
        due(drawn(), 1, false, false);
        due(drawn(), 0, false, true);
        due(drawn(), 4, false, false);
        due(drawn(), 128, false, false);
        due(drawn(), 64, false, true);
        due(drawn(), 2, false, true);
        due(drawn(), 64 | 2, false, true);
        due(drawn(), 64 | 4, false, false);
        BuildDrawer nothing = drawn();
        nothing.shorter();
        due(nothing, 1, false, true);
        due(nothing, 0, false, true);
    }

    private static void onlyWhatIsLeftCanGo() {
        BuildDrawer drawer = drawn();
        drawer.verdict(128, true);
        drawer.shorter();
        due(drawer, 128, true, true);
        due(drawer, 128 | 4, true, true);
        due(drawer, 0, true, false);
        due(drawer, 4, false, false);
        due(drawer, 128, false, false);
        drawer.draw(1, 7);
        due(drawer, 128, true, false);
    }

    private static void minimalChangesNothing() {
        BuildDrawer drawer = drawn();
        drawer.minimal();
        Due.is("left after minimal()", Due.leftOf(drawer), "0 1 2 3 4 5 6 7 8 ");
        due(drawer, 4, false, false);
        Due.is("left after minimal()", Due.leftOf(drawer), "0 1 2 3 4 5 6 7 8 ");
    }
}
