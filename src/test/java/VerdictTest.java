/** Promise 5: the VERDICT has the lowest eight bits, and stays, or not. Marks of the drawing: 64 2 64 2 128 64 4 64 64. */
public final class VerdictTest {
    public static void main(String[] args) {
        Due.sentence("Promise 5: the lowest eight of bits");
        everyBit();
        theLowestEightBitsAlone();
        higherBitsNeverCount();
        Due.sentence("Promise 5: and stays, or not");
        stayingOrNot();
        Due.sentence("Promise 5: the VERDICT has them, and nothing else happens");
        theLastVerdictCounts();
        aVerdictLeavesOutNothing();
        Due.sentence("before the first call of it: no bits, it stays");
        atFirstNoBitsAndItStays();
        Due.end();
    }

    private static void due(int bits, boolean stays, int count, String left) {
        BuildDrawer drawer = Due.drawn(0L, 1, 7);
        drawer.verdict(bits, stays);
        String call = "shorter() by verdict(" + bits + ", " + stays + ")";
        Due.is(call, drawer.shorter(), count);
        Due.is("left after " + call, Due.leftOf(drawer), left);
    }

    private static void atFirstNoBitsAndItStays() {
        Due.is("shorter() by the first verdict", Due.drawn(0L, 1, 7).shorter(), 0);
        Due.is("minimal() by the first verdict", Due.drawn(0L, 1, 7).minimal(), false);
    }

    private static void theLowestEightBitsAlone() {
        due(256, true, 0, "");
        due(256 + 128, true, 1, "4 ");
        due(0xFFFFFF00, true, 0, "");
        due(0xFFFFFF80, true, 1, "4 ");
        due(-124, true, 3, "0 4 6 ");
        due(-252, true, 2, "0 6 ");
        due(-2, true, 9, "0 1 2 3 4 5 6 7 8 ");
        due(-1, true, 9, "0 1 2 3 4 5 6 7 8 ");
        due(-1, false, 0, "");
        due(Integer.MIN_VALUE, true, 0, "");
        due(Integer.MIN_VALUE, false, 9, "0 1 2 3 4 5 6 7 8 ");
        due(Integer.MAX_VALUE, false, 0, "");
    }

    private static void higherBitsNeverCount() {
        for (int bit = 8; bit < 32; bit++) {
            due(1 << bit, true, 0, "");
            due(1 << bit, false, 9, "0 1 2 3 4 5 6 7 8 ");
            due(128 | 1 << bit, true, 1, "4 ");
            due(1 | 1 << bit, false, 0, "");
        }
    }

    private static void everyBit() {
        for (int bit = 1; bit < 256; bit *= 2) {
            BuildDrawer drawer = Due.drawn(0L, 1, 7);
            Model model = new Model(0L);
            model.draw(1, 7);
            drawer.verdict(bit, true);
            model.verdict(bit, true);
            Due.is("shorter() by verdict(" + bit + ", true)", drawer.shorter(), model.shorter());
            Due.is("the text after it", Due.textOf(drawer), model.text());
        }
    }

    private static void stayingOrNot() {
        due(4, true, 2, "0 6 ");
        due(4, false, 9, "0 1 2 3 4 5 6 7 8 ");
        due(1, false, 0, "");
        due(1, true, 9, "0 1 2 3 4 5 6 7 8 ");
        due(1 | 4, false, 0, "");
        due(2 | 4, false, 9, "0 1 2 3 4 5 6 7 8 ");
        due(0, false, 9, "0 1 2 3 4 5 6 7 8 ");
    }

    private static void theLastVerdictCounts() {
        BuildDrawer drawer = Due.drawn(0L, 1, 7);
        drawer.verdict(4, true);
        drawer.verdict(128, true);
        Due.is("shorter() by the last verdict", drawer.shorter(), 1);
        Due.is("left after it", Due.leftOf(drawer), "4 ");
    }

    private static void aVerdictLeavesOutNothing() {
        BuildDrawer drawer = Due.drawn(0L, 1, 7);
        drawer.verdict(128, true);
        Due.is("left after a verdict alone", Due.leftOf(drawer), "0 1 2 3 4 5 6 7 8 ");
        drawer.shorter();
        drawer.verdict(255, true);
        Due.is("left after another verdict", Due.leftOf(drawer), "4 ");
    }
}
