/** Promise 3: what is told of a PART, LEFT or not. */
public final class PartTest {
    public static void main(String[] args) {
        Due.sentence("Promise 3: of PART i: 0 its SORT, 1 A, 2 B, 3 the PART that it needs, 4 its MARK, 5 whether it is LEFT");
        everyWhatIsTold();
        Due.sentence("Promise 3: LEFT or not");
        aPartThatWentIsStillTold();
        Due.sentence("Promise 3: how many of 0 .. 7 are in the sets of all PACKAGES that are LEFT");
        setsInCommon();
        setsOfThoseLeftAlone();
        Due.sentence("Promise 3: 8 without any");
        withoutAnyPackage();
        Due.sentence("Promise 3: - 1: there is none such");
        thereIsNoneSuch();
        Due.sentence("Promise 3: - 2: another what");
        anotherWhat();
        Due.sentence("Promise 3: (3 may be - 1, too)");
        noneNeeded();
        Due.end();
    }

    private static void everyWhatIsTold() {
        BuildDrawer drawer = new BuildDrawer(0L);
        drawer.draw(1, 7);
        dueOfAll(drawer, "1 1 1 1 1 1 1 1 1 ", "1 1 1 1 1 1 1 1 1 ");
        int[] sortOfKind = {0, 2, 1, 3, 4, 5, 6, 7};
        for (int kind = 0; kind < 8; kind++) {
            drawer.draw(kind, 7);
            Due.is("the sort of PART 8, or of PART 7, of KIND " + kind,
                    drawer.part(kind == 4 ? 7 : 8, 0), sortOfKind[kind]);
            Due.is("the sort of PART 0 of KIND " + kind, drawer.part(0, 0), 0);
            Due.is("the sort of PART 1 of KIND " + kind, drawer.part(1, 0), 1);
        }
    }

    private static void dueOfAll(BuildDrawer drawer, String left, String common) {
        Due.is("sorts", Due.partsOf(drawer, 9, 0), "0 1 2 2 2 2 0 2 2 ");
        Due.is("As", Due.partsOf(drawer, 9, 1), "88 320 351 669 594 487 320 719 155 ");
        Due.is("Bs", Due.partsOf(drawer, 9, 2), "82 5 227 211 88 69 28 107 208 ");
        Due.is("needs", Due.partsOf(drawer, 9, 3), "-1 0 -1 -1 -1 2 0 1 1 ");
        Due.is("marks", Due.partsOf(drawer, 9, 4), "64 2 64 2 128 64 4 64 64 ");
        Due.is("left or not", Due.partsOf(drawer, 9, 5), left);
        Due.is("in common", Due.partsOf(drawer, 9, 6), common);
    }

    private static void aPartThatWentIsStillTold() {
        BuildDrawer drawer = new BuildDrawer(0L);
        drawer.draw(1, 7);
        drawer.verdict(64 | 2 | 128 | 4, true);
        Due.is("shorter()", drawer.shorter(), 4);
        dueOfAll(drawer, "1 1 0 0 1 0 1 0 0 ", "3 3 3 3 3 3 3 3 3 ");
        drawer.verdict(4, true);
        Due.is("shorter() to no PACKAGE", drawer.shorter(), 2);
        dueOfAll(drawer, "1 0 0 0 0 0 1 0 0 ", "8 8 8 8 8 8 8 8 8 ");
        drawer.verdict(0, true);
        Due.is("shorter() to nothing", drawer.shorter(), 0);
        dueOfAll(drawer, "0 0 0 0 0 0 0 0 0 ", "8 8 8 8 8 8 8 8 8 ");
    }

    private static void setsInCommon() {
        BuildDrawer clash = new BuildDrawer(-1L);
        clash.draw(1, 7);
        Due.is("part(0, 6) of sets that clash", clash.part(0, 6), 0);
        BuildDrawer whole = new BuildDrawer(Seeds.withBits(1, 1, 10, 255, 1));
        whole.draw(1, 1);
        Due.is("the SORT of PART 2", whole.part(2, 0), 2);
        Due.is("B of the only PACKAGE", whole.part(2, 2), 255);
        Due.is("part(2, 6) of a whole set", whole.part(2, 6), 8);
    }

    /** The sets: 227 211 88 69 107 208 of PACKAGES 2 3 4 5 7 8; bit 6 alone is in all. */
    private static void setsOfThoseLeftAlone() {
        BuildDrawer drawer = new BuildDrawer(0L);
        drawer.draw(1, 7);
        Due.is("part(0, 6) of all", drawer.part(0, 6), 1);
        drawer.verdict(128, true);
        drawer.shorter();
        Due.is("part(4, 6), PACKAGE 4 alone being left", drawer.part(4, 6), 3);
        Due.is("part(8, 6), by a PACKAGE that is left out", drawer.part(8, 6), 3);
        drawer.verdict(255, true);
        drawer.shorter();
        Due.is("part(0, 6) of all again", drawer.part(0, 6), 1);
    }

    private static void withoutAnyPackage() {
        BuildDrawer none = new BuildDrawer(0L);
        for (int kind = 0; kind < 8; kind++) {
            none.draw(kind, kind == 1 ? 0 : 60);
            Due.is("part(0, 6) of KIND " + kind + " without a PACKAGE", none.part(0, 6), 8);
            Due.is("part(1, 6) of KIND " + kind + " without a PACKAGE", none.part(1, 6), 8);
        }
        none.draw(1, 7);
        none.verdict(4, true);
        none.shorter();
        Due.is("part(2, 6), no PACKAGE being left", none.part(2, 6), 8);
        none.verdict(0, true);
        none.shorter();
        Due.is("part(2, 6), nothing being left", none.part(2, 6), 8);
    }

    private static void thereIsNoneSuch() {
        BuildDrawer drawer = new BuildDrawer(0L);
        drawer.draw(1, 7);
        int[] noParts = {-1, 9, 61, 62, 63, Integer.MIN_VALUE, Integer.MAX_VALUE};
        for (int i : noParts) {
            for (int what = -1; what <= 7; what++) {
                Due.is("part(" + i + ", " + what + ")", drawer.part(i, what), -1);
            }
        }
        drawer.draw(1, 60);
        Due.is("part(61, 5) of the largest size", drawer.part(61, 5), 1);
        Due.is("part(62, 5) of the largest size", drawer.part(62, 5), -1);
        drawer.draw(1, 0);
        Due.is("part(1, 5) of the smallest size", drawer.part(1, 5), 1);
        Due.is("part(2, 5) of the smallest size", drawer.part(2, 5), -1);
    }

    private static void anotherWhat() {
        BuildDrawer drawer = new BuildDrawer(0L);
        drawer.draw(1, 7);
        int[] noWhats = {-1, -2, 7, 8, 256, Integer.MIN_VALUE, Integer.MAX_VALUE};
        for (int what : noWhats) {
            for (int i = 0; i < 9; i++) {
                Due.is("part(" + i + ", " + what + ")", drawer.part(i, what), -2);
            }
        }
        drawer.shorter();
        Due.is("part(8, 7), PART 8 being left out", drawer.part(8, 7), -2);
    }

    private static void noneNeeded() {
        BuildDrawer drawer = new BuildDrawer(0L);
        drawer.draw(1, 7);
        Due.is("part(0, 3)", drawer.part(0, 3), BuildDrawer.NONE);
        Due.is("part(1, 3)", drawer.part(1, 3), 0);
        Due.is("part(2, 3)", drawer.part(2, 3), BuildDrawer.NONE);
        drawer.shorter();
        Due.is("part(2, 3), PART 2 being left out", drawer.part(2, 3), BuildDrawer.NONE);
        Due.is("part(5, 3), the PART that it needs being left out", drawer.part(5, 3), 2);
    }
}
