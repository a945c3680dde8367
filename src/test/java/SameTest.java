/** Promise 9: whether another seed draws the very PARTS. The long seeds were found by a search for such pairs. */
public final class SameTest {
    public static void main(String[] args) {
        Due.sentence("Promise 9: whether another seed draws the very PARTS of this KIND and SIZE");
        theSameSeed();
        otherSeedsThatDrawTheSame();
        seedsThatDrawAllButOneThingTheSame();
        otherSeeds();
        Due.sentence("Promise 9: false if KIND is not such");
        kindIsNotSuch();
        Due.sentence("Promise 9: false if SIZE is not such");
        sizeIsNotSuch();
        Due.sentence("Promise 9: what is drawn stays");
        whatIsDrawnStays();
        allThatCanBeAskedStays();
        Due.end();
    }

    private static void due(long seed, long other, int kind, int size, boolean same) {
        BuildDrawer drawer = new BuildDrawer(seed);
        Due.is("same(" + other + ", " + kind + ", " + size + ") of seed " + seed, drawer.same(other, kind, size), same);
        BuildDrawer reverse = new BuildDrawer(other);
        Due.is("same(" + seed + ", " + kind + ", " + size + ") of seed " + other, reverse.same(seed, kind, size), same);
    }

    private static void theSameSeed() {
        long[] seeds = {0L, 1L, -1L, Long.MIN_VALUE, Long.MAX_VALUE};
        for (long seed : seeds) {
            for (int kind = 0; kind < 8; kind++) {
                due(seed, seed, kind, 0, true);
                due(seed, seed, kind, 60, true);
            }
        }
    }

    private static void otherSeedsThatDrawTheSame() {
        due(-537434920085219641L, 8862269289739104562L, 0, 0, true);
        due(-6423897786893254235L, -2589825732101114274L, 0, 0, true);
        due(8846023722064519550L, -439017337751319006L, 5, 1, true);
        due(8846023722064519550L, -439017337751319006L, 5, 2, false);
        due(8846023722064519550L, -439017337751319006L, 5, 0, false);
        // What is PLANTED differs here, and the PARTS don't.
        due(6533106578526393962L, -571025197184566663L, 1, 0, true);
        due(-1826155324711814660L, -1227843373058343409L, 1, 0, true);
        due(7794274761406837231L, 3516364516228463922L, 1, 0, true);
    }

    private static void seedsThatDrawAllButOneThingTheSame() {
        due(-8240259261800462123L, 158789914193003369L, 0, 0, false);
        due(-8906812094693707038L, -6092171008211432119L, 0, 0, false);
        due(-3462594699176976638L, 6722388816667131864L, 0, 0, false);
        due(-1631469670963830181L, 5563914841958911231L, 0, 0, false);
        due(5956362636742284860L, 459157732162030083L, 0, 0, false);
        due(8615491455442045110L, -8449449562773971812L, 0, 0, false);
        due(-8529160621643219201L, -8660717752772003461L, 5, 1, false);
        due(4077126199404397901L, -5071457270049436257L, 5, 1, false);
        due(1757429075771360506L, 4129502557672831772L, 5, 1, false);
        due(-4281173636702123295L, -7544854331085378387L, 5, 1, false);
    }

    private static void otherSeeds() {
        for (int kind = 0; kind < 8; kind++) {
            due(0L, 1L, kind, 0, false);
            due(0L, -1L, kind, 30, false);
            due(0L, Long.MIN_VALUE, kind, 60, false);
        }
        // Seed 0 of KIND 3 and seed 1 of KIND 2 begin with one word, yet each KIND is compared with itself.
        due(0L, 1L, 3, 0, false);
    }

    private static void kindIsNotSuch() {
        int[] wrong = {-1, -2, 8, 9, 256, Integer.MIN_VALUE, Integer.MAX_VALUE};
        for (int kind : wrong) {
            due(0L, 0L, kind, 0, false);
            due(5L, 5L, kind, 60, false);
            due(0L, 0L, kind, 61, false);
        }
        due(0L, 0L, 0, 0, true);
        due(0L, 0L, 7, 0, true);
    }

    private static void sizeIsNotSuch() {
        int[] wrong = {-1, -2, -3, 61, 62, 63, Integer.MIN_VALUE, Integer.MAX_VALUE - 1, Integer.MAX_VALUE};
        for (int size : wrong) {
            for (int kind = 0; kind < 8; kind++) {
                due(0L, 0L, kind, size, false);
            }
        }
        due(0L, 0L, 1, 0, true);
        due(0L, 0L, 1, 60, true);
    }

    private static void allThatCanBeAskedStays() {
        long[] others = {0L, 1L, -1L, Long.MIN_VALUE, Long.MAX_VALUE};
        int[][] asked = {{0, 0}, {1, 7}, {1, 60}, {7, 60}, {8, 0}, {0, 61}, {-1, -1}};
        for (int[] pair : asked) {
            BuildDrawer drawer = new BuildDrawer(0L);
            drawer.draw(1, 7);
            drawer.verdict(64 | 2 | 128 | 4, true);
            drawer.shorter();
            String before = Due.stateOf(drawer);
            for (long other : others) {
                drawer.same(other, pair[0], pair[1]);
            }
            Due.is("all that can be asked after same(.., " + pair[0] + ", " + pair[1] + ")", Due.stateOf(drawer), before);
            Due.is("the verdict after it, by shorter()", drawer.shorter(), 4);
        }
    }

    private static void whatIsDrawnStays() {
        BuildDrawer drawer = new BuildDrawer(0L);
        drawer.same(0L, 1, 7);
        Due.is("part(0, 0) after same alone", drawer.part(0, 0), -1);
        drawer.draw(1, 7);
        drawer.verdict(64 | 2 | 128 | 4, true);
        drawer.shorter();
        Due.is("same(0, 4, 20)", drawer.same(0L, 4, 20), true);
        Due.is("same(5, 4, 20)", drawer.same(5L, 4, 20), false);
        Due.is("the text after same", Due.textOf(drawer), "F0(88,82);T1(320,5)<0;P4(594,88);F6(320,28)<0;");
        Due.is("part(8, 1) after same", drawer.part(8, 1), 155);
        Due.is("shorter() after same", drawer.shorter(), 4);
        drawer.draw(1, 7);
        Due.is("the Bs of the next drawing", Due.partsOf(drawer, 9, 2), "82 5 227 211 88 69 28 107 208 ");
    }
}
