/**
 * "Terms", LEFT, LOAD, VERDICT, HOLDS and GO.
 * Marks of draw(1, 7) by seed 0: 64 2 64 2 128 64 4 64 64; what they need: none 0 none none none 2 0 1 1.
 */
public final class EdgesOfVerdictsTest {
    private static final String ALL_NINE = "0 1 2 3 4 5 6 7 8 ";

    public static void main(String[] args) {
        Due.sentence("LEFT are all PARTS as they are drawn");
        allAsTheyAreDrawn();
        Due.sentence("those that are left out aren't");
        leftOutAreNotLeft();
        Due.sentence("they LOAD if each one that is LEFT needs none, or one that is LEFT");
        whatIsLeftLoads();
        Due.sentence("A VERDICT (at first: no bits, it stays)");
        theFirstVerdict();
        Due.sentence("it HOLDS, if all its bits are among their MARKS: no bits are among none");
        noBitsHoldOfNothing();
        Due.sentence("it HOLDS, if all its bits are among their MARKS: one bit that lacks is enough");
        oneBitThatLacks();
        Due.sentence("for one that doesn't stay: if not all are");
        oneThatDoesNotStay();
        Due.sentence("a PART can GO, if it is LEFT");
        whatIsLeftOutCannotGo();
        Due.sentence("a PART can GO, if no other one that is LEFT needs it");
        whatIsNeededCannotGo();
        Due.sentence("a PART can GO, if the VERDICT HOLDS of those LEFT without it");
        theLastOneWithAMarkCannotGo();
        Due.end();
    }

    private static BuildDrawer judged(int bits, boolean stays) {
        BuildDrawer drawer = Due.drawn(0L, 1, 7);
        drawer.verdict(bits, stays);
        return drawer;
    }

    private static void dueLeft(BuildDrawer drawer, int count, String left) {
        Due.is("shorter()", drawer.shorter(), count);
        Due.is("what is LEFT after it", Due.leftOf(drawer), left);
    }

    private static void allAsTheyAreDrawn() {
        for (int kind = 0; kind < 8; kind++) {
            Due.is("what is LEFT of SIZE 0", Due.partsOf(Due.drawn(0L, kind, 0), 3, 5), "1 1 -1 ");
            Due.is("what is LEFT of SIZE 60", Due.partsOf(Due.drawn(0L, kind, 60), 63, 5), "1 ".repeat(62) + "-1 ");
        }
    }

    private static void leftOutAreNotLeft() {
        BuildDrawer drawer = judged(128, true);
        drawer.shorter();
        Due.is("what is LEFT", Due.partsOf(drawer, 9, 5), "0 0 0 0 1 0 0 0 0 ");
    }

    private static void whatIsLeftLoads() {
        for (int bits = 0; bits < 256; bits++) {
            BuildDrawer drawer = new BuildDrawer(bits * 77L);
            drawer.draw(bits % 8, 60);
            drawer.verdict(bits, true);
            drawer.shorter();
            for (int i = 0; i < 62; i++) {
                if (drawer.part(i, 5) == 1) {
                    long need = drawer.part(i, 3);
                    Due.is("PART " + i + " loads by verdict " + bits,
                            need == BuildDrawer.NONE || drawer.part((int) need, 5) == 1, true);
                }
            }
        }
        dueLeft(judged(0, true), 0, "");
    }

    private static void theFirstVerdict() {
        Due.is("minimal() by the first verdict", Due.drawn(0L, 1, 7).minimal(), false);
        dueLeft(Due.drawn(0L, 1, 7), 0, "");
        dueLeft(Due.drawn(0L, 1, 60), 0, "");
    }

    private static void noBitsHoldOfNothing() {
        BuildDrawer drawer = judged(0, true);
        dueLeft(drawer, 0, "");
        dueLeft(drawer, 0, "");
        drawer.verdict(1, true);
        dueLeft(drawer, 9, ALL_NINE);
    }

    private static void oneBitThatLacks() {
        int all = 64 | 2 | 128 | 4;
        dueLeft(judged(all, true), 4, "0 1 4 6 ");
        int[] lacking = {1, 8, 16, 32};
        for (int bit : lacking) {
            dueLeft(judged(bit, true), 9, ALL_NINE);
            dueLeft(judged(all | bit, true), 9, ALL_NINE);
        }
        dueLeft(judged(255, true), 9, ALL_NINE);
    }

    private static void oneThatDoesNotStay() {
        int all = 64 | 2 | 128 | 4;
        dueLeft(judged(0, false), 9, ALL_NINE);
        dueLeft(judged(64, false), 9, ALL_NINE);
        dueLeft(judged(all, false), 9, ALL_NINE);
        int[] lacking = {1, 8, 16, 32};
        for (int bit : lacking) {
            dueLeft(judged(bit, false), 0, "");
            dueLeft(judged(all | bit, false), 0, "");
        }
        dueLeft(judged(255, false), 0, "");
        BuildDrawer nothing = judged(0, true);
        nothing.shorter();
        nothing.verdict(64, false);
        dueLeft(nothing, 0, "");
        nothing.verdict(0, false);
        dueLeft(nothing, 9, ALL_NINE);
    }

    private static void whatIsLeftOutCannotGo() {
        BuildDrawer drawer = judged(128, true);
        drawer.shorter();
        Due.is("minimal(), all but PART 4 being left out", drawer.minimal(), true);
        Due.is("shorter() of it", drawer.shorter(), 1);
        drawer.verdict(0, true);
        drawer.shorter();
        Due.is("minimal(), all being left out", drawer.minimal(), true);
    }

    /** Of SIZE 0 PART 1 needs PART 0; the marks of draw(0, 0) by seed 0 are 2 and 8. */
    private static void whatIsNeededCannotGo() {
        BuildDrawer drawer = Due.drawn(0L, 0, 0);
        drawer.verdict(8, true);
        Due.is("minimal(), PART 1 being LEFT", drawer.minimal(), true);
        dueLeft(drawer, 2, "0 1 ");
        drawer.verdict(2, true);
        Due.is("minimal(), PART 1 being free to GO", drawer.minimal(), false);
        dueLeft(drawer, 1, "0 ");
        drawer.verdict(0, true);
        Due.is("minimal(), PART 1 being left out", drawer.minimal(), false);
        dueLeft(drawer, 0, "");
    }

    private static void theLastOneWithAMarkCannotGo() {
        dueLeft(judged(128, true), 1, "4 ");
        dueLeft(judged(2, true), 2, "0 1 ");
        dueLeft(judged(64, true), 1, "0 ");
        BuildDrawer drawer = judged(128, true);
        drawer.shorter();
        Due.is("minimal(), PART 4 alone having 128", drawer.minimal(), true);
        drawer.verdict(128, false);
        Due.is("minimal(), as 128 must lack", drawer.minimal(), false);
    }
}
