/** "Terms", CHANCES: the word's 64 bits, its highest 31 bits, their rest by n, and how the word begins. */
public final class EdgesOfChancesTest {
    private static final long HIGHEST_BIT = Long.MIN_VALUE;
    private static final long LOWER_33_BITS = (1L << 33) - 1;

    public static void main(String[] args) {
        Due.sentence("CHANCES: a word of 64 bits: it wraps around as it becomes the next");
        theWordWrapsAround();
        Due.sentence("its highest 31 bits: the 33 below them don't count, and the highest is no sign");
        theHighest31Bits();
        Due.sentence("of these the rest by n: n - 1, n, and the most that 31 bits hold");
        theRestByN();
        Due.sentence("the word begins with (seed xor KIND) * .. + SIZE");
        theSeedIsXoredWithTheKind();
        theSizeIsAdded();
        theProductWrapsAround();
        Due.sentence("to DRAW a KIND 0 .. 7 of a SIZE 0 .. 60");
        theFirstAndTheLastKindAndSize();
        theNextOnesBesideThem();
        Due.end();
    }

    private static long firstA(long seed) {
        return Due.drawn(seed, 0, 0).part(0, 1);
    }

    private static void dueBehindWord(long word, long a) {
        Due.is("A of PART 0, the word having begun with " + word, firstA(Seeds.withWord(0, 0, 0, word)), a);
    }

    private static void theWordWrapsAround() {
        dueBehindWord(0L, 807);
        dueBehindWord(1L, 774);
        dueBehindWord(-1L, 488);
        dueBehindWord(Long.MIN_VALUE, 631);
        dueBehindWord(Long.MAX_VALUE, 664);
    }

    private static void dueOfWord(long word, long a) {
        Due.is("A of PART 0 by the word " + word, firstA(Seeds.withWord(0, 0, 1, word)), a);
    }

    private static void theHighest31Bits() {
        dueOfWord(0L, 0);
        dueOfWord(LOWER_33_BITS, 0);
        dueOfWord(1L << 32, 0);
        dueOfWord(1L << 33, 1);
        dueOfWord((1L << 33) | LOWER_33_BITS, 1);
        dueOfWord(1L << 34, 2);
        dueOfWord(1L << 62, 912);
        dueOfWord(Long.MAX_VALUE, 823);
        dueOfWord(HIGHEST_BIT, 824);
        dueOfWord(HIGHEST_BIT | LOWER_33_BITS, 824);
        dueOfWord(HIGHEST_BIT | (1L << 33), 825);
        dueOfWord(-1L, 647);
    }

    private static void dueOfBits(int chance, int what, int bits, long answer) {
        long seed = Seeds.withBits(0, 0, chance, bits, 1);
        Due.is("part(0, " + what + ") by the bits " + bits, Due.drawn(seed, 0, 0).part(0, what), answer);
    }

    private static void theRestByN() {
        dueOfBits(1, 1, 999, 999);
        dueOfBits(1, 1, 1000, 0);
        dueOfBits(1, 1, 1001, 1);
        dueOfBits(1, 1, Integer.MAX_VALUE, 647);
        dueOfBits(2, 2, 99, 99);
        dueOfBits(2, 2, 100, 0);
        dueOfBits(2, 2, Integer.MAX_VALUE, 47);
        dueOfBits(3, 4, 7, 128);
        dueOfBits(3, 4, 8, 1);
        dueOfBits(3, 4, Integer.MAX_VALUE, 128);
    }

    private static void dueText(long seed, int kind, String text) {
        Due.is("the text of draw(" + kind + ", 0) by seed " + seed, Due.textOf(Due.drawn(seed, kind, 0)), text);
    }

    private static void theSeedIsXoredWithTheKind() {
        for (int kind = 0; kind < 8; kind++) {
            dueText(kind, kind, kind == 1 ? "F0(424,37);T1(125,3)<0;" : "F0(807,24);T1(236,5)<0;");
        }
        dueText(-1L, 0, "F0(558,67);T1(15,5)<0;");
        dueText(-1L, 7, "F0(168,69);T1(523,2)<0;");
        dueText(-8L, 7, "F0(558,67);T1(15,5)<0;");
        dueText(-8L, 0, "F0(168,69);T1(523,2)<0;");
    }

    private static void theSizeIsAdded() {
        // With SIZE added the word of all three begins with 0, so they begin alike.
        String alike = "F0(807,24);T1(236,5)<0;";
        Due.is("by seed 0 and SIZE 0", Due.textOf(0L, 0, 0), alike);
        Due.is("by a seed of - 1 and SIZE 1", Due.textOf(2313046976756913067L, 0, 1), alike + "F2(975,64)<1;");
        Due.is("by a seed of - 60 and SIZE 60", Due.textOf(-8791133984261628908L, 0, 60).substring(0, 60),
                alike + "F2(975,64)<1;F3(382,45)<2;F4(978,31);");
    }

    private static void theProductWrapsAround() {
        dueText(Long.MIN_VALUE, 0, "F0(631,48);T1(60,5)<0;");
        dueText(Long.MIN_VALUE, 7, "F0(21,46);T1(552,0)<0;");
        dueText(Long.MAX_VALUE, 0, "F0(382,91);T1(191,5)<0;");
        dueText(Long.MAX_VALUE, 7, "F0(344,93);T1(699,2)<0;");
    }

    private static void theFirstAndTheLastKindAndSize() {
        Due.is("draw(0, 0)", new BuildDrawer(0L).draw(0, 0), 2);
        Due.is("draw(7, 0)", new BuildDrawer(0L).draw(7, 0), 2);
        Due.is("draw(0, 60)", new BuildDrawer(0L).draw(0, 60), 62);
        Due.is("draw(7, 60)", new BuildDrawer(0L).draw(7, 60), 62);
    }

    private static void theNextOnesBesideThem() {
        Due.is("draw(-1, 0)", new BuildDrawer(0L).draw(-1, 0), -2);
        Due.is("draw(8, 0)", new BuildDrawer(0L).draw(8, 0), -2);
        Due.is("draw(0, -1)", new BuildDrawer(0L).draw(0, -1), -2);
        Due.is("draw(0, 61)", new BuildDrawer(0L).draw(0, 61), -2);
    }
}
