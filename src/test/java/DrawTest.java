/** Promise 2: a KIND of a SIZE is drawn in place of what there was, and all are LEFT. */
public final class DrawTest {
    private static final int[][] NOT_SUCH = {{-1, 0}, {8, 0}, {0, -1}, {0, 61}, {8, 61}, {-1, -1}, {8, -1}, {-1, 61},
        {Integer.MIN_VALUE, 5}, {Integer.MAX_VALUE, 5}, {5, Integer.MIN_VALUE}, {5, Integer.MAX_VALUE}};

    public static void main(String[] args) {
        Due.sentence("Promise 2: a KIND of a SIZE is drawn");
        everyKindIsDrawn();
        otherSeedsAreDrawn();
        plantedIsInEverySet();
        Due.sentence("Promise 2: how many PARTS");
        everySizeIsDrawn();
        Due.sentence("Promise 2: in place of what there was");
        aDrawingTakesThePlaceOfTheLast();
        nothingOfALargerOneCounts();
        theSameIsDrawnAgain();
        theVerdictOutlivesADrawing();
        Due.sentence("Promise 2: all are LEFT");
        allAreLeft();
        Due.sentence("Promise 2: - 2: KIND is not such");
        kindIsNotSuch();
        Due.sentence("Promise 2: - 2: SIZE is not such");
        sizeIsNotSuch();
        Due.sentence("Promise 2: - 2, and nothing happens");
        whatIsNotSuchDoesNothing();
        nothingHappensToANewObject();
        Due.end();
    }

    private static void due(long seed, int kind, int size, String text, String marks) {
        BuildDrawer drawer = new BuildDrawer(seed);
        String call = "draw(" + kind + ", " + size + ") by seed " + seed;
        Due.is(call, drawer.draw(kind, size), size + 2);
        Due.is("the text of " + call, Due.textOf(drawer), text);
        Due.is("the marks of " + call, Due.partsOf(drawer, size + 2, 4), marks);
    }

    private static void everyKindIsDrawn() {
        due(0L, 0, 7, "F0(278,31);T1(673,1)<0;F2(764,39)<1;F3(632,80)<2;F4(899,96)<1;F5(654,98)<0;F6(945,93)<5;F7(350,75)<3;F8(307,72)<4;",
                "2 8 64 32 128 32 1 32 1 ");
        due(0L, 1, 7, "F0(88,82);T1(320,5)<0;P2(351,227);P3(669,211);P4(594,88);P5(487,69)<2;F6(320,28)<0;P7(719,107)<1;P8(155,208)<1;",
                "64 2 64 2 128 64 4 64 64 ");
        due(0L, 2, 7, "F0(775,45);T1(763,0)<0;T2(16,3);T3(107,1)<1;T4(996,1)<2;F5(278,76)<1;F6(925,99);T7(862,3)<0;T8(482,1)<2;",
                "8 64 1 2 4 32 2 1 2 ");
        due(0L, 3, 7, "F0(672,2);T1(632,7)<0;R2(994,2);R3(196,8)<1;F4(221,91)<2;R5(415,4)<0;F6(590,26)<0;F7(793,3)<3;R8(745,1)<0;",
                "1 128 16 64 16 32 2 32 2 ");
        due(0L, 4, 7, "F0(921,59);T1(853,6)<0;S2(620,4)<0;S3(186,100)<2;S4(309,10)<3;S5(262,10)<3;F6(999,25)<5;S7(857,1)<0;F8(903,92)<1;",
                "32 2 32 32 128 2 16 4 128 ");
        due(0L, 5, 7, "F0(170,16);T1(74,6)<0;C2(246,0)<1;F3(671,74)<0;F4(318,88)<1;C5(688,2)<1;C6(570,2)<2;C7(657,0)<1;C8(920,1)<4;",
                "4 4 64 2 128 32 2 1 4 ");
        due(0L, 6, 7, "F0(418,73);T1(944,5)<0;F2(224,5)<0;L3(760,6);L4(543,5)<0;F5(176,31)<0;L6(884,6)<3;L7(589,1)<3;L8(183,2)<2;",
                "1 16 8 128 1 32 2 32 8 ");
        due(0L, 7, 7, "F0(667,29);T1(165,4)<0;V2(849,3);F3(498,3);V4(416,4)<0;V5(312,4)<1;V6(549,4)<4;V7(521,2)<6;V8(447,2);",
                "32 32 128 32 4 16 4 4 16 ");
    }

    private static void otherSeedsAreDrawn() {
        due(-1L, 4, 7, "F0(385,47);T1(271,4)<0;S2(930,5)<1;S3(986,5)<0;S4(943,108)<2;S5(22,3)<1;S6(327,107);S7(341,1);S8(723,4)<0;",
                "128 16 64 1 16 64 8 4 8 ");
        due(Long.MIN_VALUE, 6, 7, "F0(242,49);T1(120,5)<0;F2(48,29);L3(584,0);L4(367,6);F5(0,55)<4;L6(60,0)<2;L7(413,0)<3;L8(7,3)<1;",
                "1 16 8 128 1 32 2 32 8 ");
        due(2026L, 7, 7, "F0(603,10);T1(930,2)<0;V2(512,5)<0;V3(511,1)<2;V4(143,4)<2;F5(852,52)<4;V6(142,3)<1;F7(100,69)<5;V8(228,1);",
                "2 128 128 16 4 8 16 64 32 ");
    }

    private static void plantedIsInEverySet() {
        BuildDrawer with = new BuildDrawer(0L);
        with.draw(1, 7);
        for (int i = 2; i < 9; i++) {
            Due.is("bit 6 in the set of PACKAGE " + i, with.part(i, 0) != 2 || (with.part(i, 2) & 64) != 0, true);
        }
        due(-1L, 1, 7, "F0(518,47);T1(642,0)<0;P2(218,157)<1;P3(503,114)<2;P4(200,172)<0;P5(320,141);P6(687,144)<4;F7(891,15)<1;P8(256,151)<6;",
                "64 32 64 8 8 64 4 32 16 ");
    }

    private static void everySizeIsDrawn() {
        for (int size = 0; size <= 60; size++) {
            for (int kind = 0; kind < 8; kind++) {
                BuildDrawer drawer = new BuildDrawer(77L);
                String call = "draw(" + kind + ", " + size + ")";
                Due.is(call, drawer.draw(kind, size), size + 2);
                Due.is("the last one left of " + call, drawer.left(size + 1), size + 1);
                Due.is("the one behind the last of " + call, drawer.part(size + 2, 0), -1);
            }
        }
        for (int kind = 0; kind < 8; kind++) {
            Model model = new Model(77L);
            model.draw(kind, 60);
            Due.is("the text of draw(" + kind + ", 60)", Due.textOf(77L, kind, 60), model.text());
        }
    }

    private static void kindIsNotSuch() {
        int[] wrong = {-1, -2, 8, 9, 256, Integer.MIN_VALUE, Integer.MAX_VALUE};
        for (int kind : wrong) {
            Due.is("draw(" + kind + ", 0)", new BuildDrawer(0L).draw(kind, 0), -2);
            Due.is("draw(" + kind + ", 60)", new BuildDrawer(0L).draw(kind, 60), -2);
        }
    }

    private static void sizeIsNotSuch() {
        int[] wrong = {-1, -2, -3, 61, 62, 63, 256, Integer.MIN_VALUE, Integer.MAX_VALUE - 1, Integer.MAX_VALUE};
        for (int size : wrong) {
            for (int kind = 0; kind < 8; kind++) {
                Due.is("draw(" + kind + ", " + size + ")", new BuildDrawer(0L).draw(kind, size), -2);
            }
        }
    }

    private static void whatIsNotSuchDoesNothing() {
        for (int[] pair : NOT_SUCH) {
            BuildDrawer drawer = new BuildDrawer(0L);
            drawer.draw(1, 7);
            drawer.verdict(64 | 2 | 128 | 4, true);
            drawer.shorter();
            String before = Due.stateOf(drawer);
            Due.is("draw(" + pair[0] + ", " + pair[1] + ")", drawer.draw(pair[0], pair[1]), -2);
            Due.is("all that can be asked behind it", Due.stateOf(drawer), before);
            Due.is("the verdict behind it, by shorter()", drawer.shorter(), 4);
            Due.is("the next drawing", drawer.draw(0, 0), 2);
            Due.is("A of its last PART", drawer.part(1, 1), 236);
        }
    }

    private static void nothingHappensToANewObject() {
        for (int[] pair : NOT_SUCH) {
            BuildDrawer drawer = new BuildDrawer(0L);
            String before = Due.stateOf(new BuildDrawer(0L));
            Due.is("draw(" + pair[0] + ", " + pair[1] + ")", drawer.draw(pair[0], pair[1]), -2);
            Due.is("all that can be asked behind it", Due.stateOf(drawer), before);
            Due.is("shorter() behind it", drawer.shorter(), 0);
        }
    }

    private static void allAreLeft() {
        BuildDrawer drawer = new BuildDrawer(0L);
        for (int kind = 0; kind < 8; kind++) {
            drawer.draw(kind, 7);
            Due.is("what is left of KIND " + kind, Due.leftOf(drawer), "0 1 2 3 4 5 6 7 8 ");
            Due.is("shorter()", drawer.shorter(), 0);
        }
        drawer.draw(7, 60);
        Due.is("the last one left of SIZE 60", drawer.left(61), 61);
        drawer.shorter();
        drawer.draw(7, 60);
        Due.is("the last one left of SIZE 60, again", drawer.left(61), 61);
    }

    /** PARTS 2 to 61 of the larger one had needs, marks and sets, which must not be looked at any more. */
    private static void nothingOfALargerOneCounts() {
        BuildDrawer drawer = new BuildDrawer(0L);
        drawer.draw(1, 60);
        drawer.draw(0, 0);
        Due.is("part(0, 6)", drawer.part(0, 6), 8);
        drawer.verdict(8, true);
        Due.is("minimal() by PART 1's mark", drawer.minimal(), true);
        drawer.verdict(1, true);
        Due.is("minimal() by a mark that is gone", drawer.minimal(), true);
        Due.is("shorter() by a mark that is gone", drawer.shorter(), 2);
        drawer.verdict(1, false);
        Due.is("shorter(), as it doesn't stay", drawer.shorter(), 0);
        drawer.verdict(0, false);
        Due.is("shorter() to all again", drawer.shorter(), 2);
        Due.is("what is left", Due.leftOf(drawer), "0 1 ");
    }

    private static void theSameIsDrawnAgain() {
        BuildDrawer drawer = new BuildDrawer(0L);
        drawer.draw(1, 7);
        String first = Due.stateOf(drawer);
        drawer.draw(4, 60);
        drawer.draw(1, 7);
        Due.is("all that can be asked of the same drawing", Due.stateOf(drawer), first);
    }

    private static void aDrawingTakesThePlaceOfTheLast() {
        BuildDrawer drawer = new BuildDrawer(0L);
        drawer.draw(7, 60);
        Due.is("draw(0, 0) after draw(7, 60)", drawer.draw(0, 0), 2);
        Due.is("part(2, 0) after it", drawer.part(2, 0), -1);
        Due.is("left(2) after it", drawer.left(2), BuildDrawer.NONE);
        Due.is("the text after it", Due.textOf(drawer), "F0(807,24);T1(236,5)<0;");
        Due.is("shorter() after it", drawer.shorter(), 0);
        Due.is("draw(0, 0) again", drawer.draw(0, 0), 2);
        Due.is("what is left after it", Due.leftOf(drawer), "0 1 ");
        Due.is("the text after it", Due.textOf(drawer), "F0(807,24);T1(236,5)<0;");
    }

    private static void theVerdictOutlivesADrawing() {
        BuildDrawer drawer = new BuildDrawer(0L);
        drawer.verdict(128, true);
        drawer.draw(1, 7);
        Due.is("shorter() by a verdict older than the drawing", drawer.shorter(), 1);
        Due.is("what is left after it", Due.leftOf(drawer), "4 ");
    }
}
