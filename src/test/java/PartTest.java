/** Promise 3: what is told of a PART, LEFT or not. */
public final class PartTest {
    public static void main(String[] args) {
        everyWhatIsTold();
        aPartThatWentIsStillTold();
        setsInCommon();
        wrongNumbers();
        Due.end();
    }

    private static void everyWhatIsTold() {
        BuildDrawer drawer = new BuildDrawer(0L);
        drawer.draw(1, 7);
        dueOfAll(drawer, "1 1 1 1 1 1 1 1 1 ", "1 1 1 1 1 1 1 1 1 ");
        int[] sortOfKind = {0, 2, 1, 3, 4, 5, 6, 7};
        for (int kind = 0; kind < 8; kind++) {
            drawer.draw(kind, 7);
            Due.is("the sort of PART 8, or of PART 7, of KIND " + kind,
                    drawer.part(kind == 4 ? 7 : 8, 0), sortOfKind[kind]);
            Due.is("the sort of PART 0 of KIND " + kind, drawer.part(0, 0), 0);
            Due.is("the sort of PART 1 of KIND " + kind, drawer.part(1, 0), 1);
        }
    }

    private static void dueOfAll(BuildDrawer drawer, String left, String common) {
        Due.is("sorts", Due.partsOf(drawer, 9, 0), "0 1 2 2 2 2 0 2 2 ");
        Due.is("As", Due.partsOf(drawer, 9, 1), "88 320 351 669 594 487 320 719 155 ");
        Due.is("Bs", Due.partsOf(drawer, 9, 2), "82 5 227 211 88 69 28 107 208 ");
        Due.is("needs", Due.partsOf(drawer, 9, 3), "-1 0 -1 -1 -1 2 0 1 1 ");
        Due.is("marks", Due.partsOf(drawer, 9, 4), "64 2 64 2 128 64 4 64 64 ");
        Due.is("left or not", Due.partsOf(drawer, 9, 5), left);
        Due.is("in common", Due.partsOf(drawer, 9, 6), common);
    }

    private static void aPartThatWentIsStillTold() {
        BuildDrawer drawer = new BuildDrawer(0L);
        drawer.draw(1, 7);
        drawer.verdict(64 | 2 | 128 | 4, true);
        Due.is("shorter()", drawer.shorter(), 4);
        dueOfAll(drawer, "1 1 0 0 1 0 1 0 0 ", "3 3 3 3 3 3 3 3 3 ");
        drawer.verdict(4, true);
        Due.is("shorter() to no PACKAGE", drawer.shorter(), 2);
        dueOfAll(drawer, "1 0 0 0 0 0 1 0 0 ", "8 8 8 8 8 8 8 8 8 ");
        drawer.verdict(0, true);
        Due.is("shorter() to nothing", drawer.shorter(), 0);
        dueOfAll(drawer, "0 0 0 0 0 0 0 0 0 ", "8 8 8 8 8 8 8 8 8 ");
    }

    private static void setsInCommon() {
        BuildDrawer clash = new BuildDrawer(-1L);
        clash.draw(1, 7);
        Due.is("part(0, 6) of sets that clash", clash.part(0, 6), 0);
        BuildDrawer none = new BuildDrawer(0L);
        none.draw(4, 60);
        Due.is("part(61, 6) without a PACKAGE", none.part(61, 6), 8);
        none.draw(1, 0);
        Due.is("part(1, 6) of KIND 1 without a PACKAGE", none.part(1, 6), 8);
    }

    private static void wrongNumbers() {
        BuildDrawer drawer = new BuildDrawer(0L);
        drawer.draw(1, 7);
        int[] noParts = {-1, 9, 61, 62, 63, Integer.MIN_VALUE, Integer.MAX_VALUE};
        for (int i : noParts) {
            for (int what = -1; what <= 7; what++) {
                Due.is("part(" + i + ", " + what + ")", drawer.part(i, what), -1);
            }
        }
        int[] noWhats = {-1, 7, 8, Integer.MIN_VALUE, Integer.MAX_VALUE};
        for (int what : noWhats) {
            Due.is("part(0, " + what + ")", drawer.part(0, what), -2);
            Due.is("part(8, " + what + ")", drawer.part(8, what), -2);
        }
        drawer.draw(1, 60);
        Due.is("part(61, 5) of the largest size", drawer.part(61, 5), 1);
        Due.is("part(62, 5) of the largest size", drawer.part(62, 5), -1);
    }
}
