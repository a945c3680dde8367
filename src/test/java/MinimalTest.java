/** Promise 8: whether no PART can GO. Marks of the drawing: 64 2 64 2 128 64 4 64 64. */
public final class MinimalTest {
    public static void main(String[] args) {
        Due.sentence("Promise 8: whether no PART can GO");
        beforeAndAfterShorter();
        whatIsNeededCannotGo();
        aVerdictThatDoesNotStay();
        onlyWhatIsLeftCanGo();
        minimalChangesNothing();
        Due.sentence("Promise 8: no PART: of nothing none can GO");
        nothingIsMinimal();
        Due.sentence("Promise 8: no PART: one is enough, the first or the last");
        oneIsEnough();
        Due.end();
    }

    private static void due(BuildDrawer drawer, int bits, boolean stays, boolean minimal) {
        drawer.verdict(bits, stays);
        Due.is("minimal() by verdict(" + bits + ", " + stays + ")", drawer.minimal(), minimal);
    }

    private static void beforeAndAfterShorter() {
        for (int bits = 0; bits < 256; bits++) {
            BuildDrawer drawer = Due.drawn(0L, 1, 7);
            boolean holds = (bits & ~(64 | 2 | 128 | 4)) == 0;
            due(drawer, bits, true, !holds);
            drawer.shorter();
            due(drawer, bits, true, true);
        }
    }

    private static void whatIsNeededCannotGo() {
        BuildDrawer drawer = new BuildDrawer(0L);
        drawer.draw(4, 0);
        due(drawer, 2, true, true);
        due(drawer, 32, true, false);
        drawer.draw(0, 0);
        due(drawer, 8, true, true);
        due(drawer, 2, true, false);
    }

    private static void aVerdictThatDoesNotStay() {
        due(Due.drawn(0L, 1, 7), 1, false, false);
        due(Due.drawn(0L, 1, 7), 0, false, true);
        due(Due.drawn(0L, 1, 7), 4, false, false);
        due(Due.drawn(0L, 1, 7), 128, false, false);
        due(Due.drawn(0L, 1, 7), 64, false, true);
        due(Due.drawn(0L, 1, 7), 2, false, true);
        due(Due.drawn(0L, 1, 7), 64 | 2, false, true);
        due(Due.drawn(0L, 1, 7), 64 | 4, false, false);
        BuildDrawer nothing = Due.drawn(0L, 1, 7);
        nothing.shorter();
        due(nothing, 1, false, true);
        due(nothing, 0, false, true);
    }

    private static void onlyWhatIsLeftCanGo() {
        BuildDrawer drawer = Due.drawn(0L, 1, 7);
        drawer.verdict(128, true);
        drawer.shorter();
        due(drawer, 128, true, true);
        due(drawer, 128 | 4, true, true);
        due(drawer, 0, true, false);
        due(drawer, 4, false, false);
        due(drawer, 128, false, false);
        drawer.draw(1, 7);
        due(drawer, 128, true, false);
    }

    private static void nothingIsMinimal() {
        int[] bits = {0, 1, 128, 255};
        for (int some : bits) {
            due(new BuildDrawer(0L), some, true, true);
            due(new BuildDrawer(0L), some, false, true);
            BuildDrawer nothing = Due.drawn(0L, 1, 7);
            nothing.shorter();
            due(nothing, some, true, true);
            due(nothing, some, false, true);
        }
    }

    private static void oneIsEnough() {
        BuildDrawer first = new BuildDrawer(0L);
        first.draw(0, 0);
        first.verdict(2, true);
        Due.is("shorter() to PART 0", first.shorter(), 1);
        due(first, 2, true, true);
        due(first, 0, true, false);
        for (int kind = 0; kind < 8; kind++) {
            BuildDrawer last = new BuildDrawer(0L);
            last.draw(kind, 0);
            due(last, (int) last.part(0, 4), true, false);
        }
        oneOfFourIsEnough();
        theVeryLastIsEnough();
    }

    /** LEFT are 0 1 4 6 with the marks 64 2 128 4, of which each but PART 0, that is needed, can GO without its bit. */
    private static void oneOfFourIsEnough() {
        BuildDrawer four = Due.drawn(0L, 1, 7);
        four.verdict(64 | 2 | 128 | 4, true);
        Due.is("shorter() to four", four.shorter(), 4);
        due(four, 64 | 2 | 128 | 4, true, true);
        due(four, 64 | 2 | 128, true, false);
        due(four, 64 | 2 | 4, true, false);
        due(four, 64 | 128 | 4, true, false);
        due(four, 2 | 128 | 4, true, true);
    }

    /** By this seed PART 61 alone has the mark 128, so that it is LEFT by all bits, and without 128 alone can GO. */
    private static void theVeryLastIsEnough() {
        BuildDrawer drawer = new BuildDrawer(3802L);
        drawer.draw(3, 60);
        drawer.verdict(255, true);
        Due.is("shorter() by all bits", drawer.shorter(), 12);
        Due.is("what is left", Due.leftOf(drawer), "0 1 4 8 9 11 12 13 16 18 55 61 ");
        due(drawer, 255, true, true);
        due(drawer, 127, true, false);
    }

    private static void minimalChangesNothing() {
        BuildDrawer drawer = Due.drawn(0L, 1, 7);
        drawer.minimal();
        Due.is("left after minimal()", Due.leftOf(drawer), "0 1 2 3 4 5 6 7 8 ");
        due(drawer, 4, false, false);
        Due.is("left after minimal()", Due.leftOf(drawer), "0 1 2 3 4 5 6 7 8 ");
    }
}
