/** Promise 6: what can GO goes, from the last to the first and again. Marks of the drawing: 64 2 64 2 128 64 4 64 64. */
public final class ShorterTest {
    public static void main(String[] args) {
        fromTheLastToTheFirst();
        whatIsNeededStays();
        allAreLeftAgain();
        onlyWhatIsLeftCounts();
        againChangesNothing();
        aLongChainGoes();
        Due.end();
    }

    private static void due(BuildDrawer drawer, int bits, boolean stays, int count, String left) {
        drawer.verdict(bits, stays);
        String call = "shorter() by verdict(" + bits + ", " + stays + ")";
        Due.is(call, drawer.shorter(), count);
        Due.is("left after " + call, Due.leftOf(drawer), left);
    }

    private static BuildDrawer drawn() {
        BuildDrawer drawer = new BuildDrawer(0L);
        drawer.draw(1, 7);
        return drawer;
    }

    private static void fromTheLastToTheFirst() {
        due(drawn(), 64, true, 1, "0 ");
        due(drawn(), 2, true, 2, "0 1 ");
        due(drawn(), 64 | 2, true, 2, "0 1 ");
        due(drawn(), 64 | 2 | 128 | 4, true, 4, "0 1 4 6 ");
        due(drawn(), 0, true, 0, "");
    }

    private static void whatIsNeededStays() {
        due(drawn(), 4, true, 2, "0 6 ");
        BuildDrawer steps = new BuildDrawer(0L);
        steps.draw(4, 7);
        due(steps, 16, true, 5, "0 2 3 5 6 ");
    }

    private static void allAreLeftAgain() {
        BuildDrawer drawer = drawn();
        due(drawer, 128, true, 1, "4 ");
        due(drawer, 4, true, 9, "0 1 2 3 4 5 6 7 8 ");
        due(drawer, 4, true, 2, "0 6 ");
        due(drawer, 4, false, 9, "0 1 2 3 4 5 6 7 8 ");
        due(drawer, 1, true, 9, "0 1 2 3 4 5 6 7 8 ");
        due(drawer, 1, false, 0, "");
        due(drawer, 0, false, 9, "0 1 2 3 4 5 6 7 8 ");
    }

    private static void onlyWhatIsLeftCounts() {
        BuildDrawer drawer = drawn();
        due(drawer, 64 | 2 | 128 | 4, true, 4, "0 1 4 6 ");
        due(drawer, 128 | 4, true, 3, "0 4 6 ");
        due(drawer, 2, false, 0, "");
    }

    private static void againChangesNothing() {
        BuildDrawer drawer = drawn();
        due(drawer, 128 | 4, true, 3, "0 4 6 ");
        due(drawer, 128 | 4, true, 3, "0 4 6 ");
        due(drawer, 0, true, 0, "");
        due(drawer, 0, true, 0, "");
    }

    private static void aLongChainGoes() {
        for (int kind = 0; kind < 8; kind++) {
            BuildDrawer drawer = new BuildDrawer(5L);
            drawer.draw(kind, 60);
            Due.is("shorter() of KIND " + kind + " of size 60", drawer.shorter(), 0);
            drawer.draw(kind, 60);
            drawer.verdict(255, true);
            Model model = new Model(5L);
            model.draw(kind, 60);
            model.verdict(255, true);
            Due.is("shorter() by all bits of KIND " + kind, drawer.shorter(), model.shorter());
            for (int i = 0; i < 63; i++) {
                Due.is("left(" + i + ") after it", drawer.left(i), model.left(i));
            }
            whatIsLeftLoads(drawer, kind);
        }
    }

    private static void whatIsLeftLoads(BuildDrawer drawer, int kind) {
        for (int i = 0; i < 62; i++) {
            long need = drawer.part(i, 3);
            boolean loads = drawer.part(i, 5) == 0 || need == BuildDrawer.NONE || drawer.part((int) need, 5) == 1;
            Due.is("PART " + i + " of KIND " + kind + " loads", loads, true);
        }
    }
}
