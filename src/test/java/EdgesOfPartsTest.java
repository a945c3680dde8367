/** "Terms", how PARTS are drawn: PLANTED, SORT, A, B, MARK and the PART that is needed, each at its least and its most. */
public final class EdgesOfPartsTest {
    private static final String[] SORTS = {"FILE", "TARGET", "PACKAGE", "RULE", "STEP", "CHANGE", "LOSS", "RELEASE"};
    private static final int[] SORT_OF_KIND = {0, 2, 1, 3, 4, 5, 6, 7};
    private static final int[] B_BELOW = {100, 8, 256, 10, 12, 5, 7, 6};
    private static final int PACKAGES = 1;
    private static final int STEPS = 4;

    public static void main(String[] args) {
        Due.sentence("First, of KIND 1 alone, PLANTED is a CHANCE");
        onlyKindOnePlants();
        Due.sentence("PLANTED: a set's bit, if it is below 8");
        plantedBelowEight();
        Due.sentence("PLANTED: else none");
        plantedFromEightOn();
        Due.sentence("it has PLANTED's bit, too: what is there stays");
        whatIsInTheSetStays();
        Due.sentence("PART 0 is a FILE, PART 1 a TARGET that needs PART 0: without a CHANCE");
        theFirstTwoParts();
        Due.sentence("then come SIZE more: none of SIZE 0, 60 of SIZE 60");
        sizeMore();
        Due.sentence("of each a CHANCE below 4: 3: a FILE, else what its KIND tells");
        threeIsAFile();
        Due.sentence("A, a CHANCE below 1000");
        theLeastAndTheMostA();
        Due.sentence("B, as its SORT says");
        theLeastAndTheMostB();
        Due.sentence("4 S STEP: and 100 more, if a CHANCE below 5 is 0");
        hundredMore();
        Due.sentence("its MARK, 1 times 2 to a CHANCE below 8");
        theLeastAndTheMostMark();
        Due.sentence("a CHANCE below its number and 1: the PART that it needs");
        theFirstAndTheLastThatCanBeNeeded();
        Due.sentence("none if that is its own number");
        itsOwnNumberIsNone();
        Due.end();
    }

    /** KIND 1 has taken a CHANCE before PART 0. */
    private static int chanceBefore(int kind) {
        return kind == PACKAGES ? 1 : 0;
    }

    private static void onlyKindOnePlants() {
        for (int kind = 0; kind < 8; kind++) {
            long first = Seeds.withBits(kind, 0, 1, 777, 0);
            long second = Seeds.withBits(kind, 0, 2, 777, 0);
            Due.is("A of PART 0 of KIND " + kind + " is CHANCE 1", Due.drawn(first, kind, 0).part(0, 1) == 777, kind != PACKAGES);
            Due.is("A of PART 0 of KIND " + kind + " is CHANCE 2", Due.drawn(second, kind, 0).part(0, 1) == 777, kind == PACKAGES);
        }
    }

    private static BuildDrawer planted(int planted, int variant) {
        return Due.drawn(Seeds.withBits(PACKAGES, 60, 1, planted, variant), PACKAGES, 60);
    }

    private static int inAllSets(BuildDrawer drawer) {
        int inAll = 255;
        for (int i = 0; i < 62; i++) {
            if (drawer.part(i, 0) == 2) {
                inAll &= (int) drawer.part(i, 2);
            }
        }
        return inAll;
    }

    private static void plantedBelowEight() {
        for (int bit = 0; bit < 8; bit++) {
            Due.is("what all sets have, " + bit + " being PLANTED", inAllSets(planted(bit, 5)), 1 << bit);
            Due.is("the same by a higher word", inAllSets(planted(16 * 1000 + bit, 5)), 1 << bit);
            Due.is("part(0, 6) of it", planted(bit, 5).part(0, 6), 1);
        }
    }

    private static void plantedFromEightOn() {
        for (int none = 8; none < 16; none++) {
            Due.is("what all sets have, " + none + " being PLANTED", inAllSets(planted(none, 5)), 0);
            Due.is("part(0, 6) of it", planted(none, 5).part(0, 6), 0);
        }
    }

    /** Of PART 2 of KIND 1 the SORT is CHANCE 8 and B is CHANCE 10. */
    private static void whatIsInTheSetStays() {
        for (int bit = 0; bit < 8; bit++) {
            dueSet(0, bit, 1 << bit);
            dueSet(1 << bit, bit, 1 << bit);
            dueSet(255 - (1 << bit), bit, 255);
            dueSet(255, bit, 255);
        }
        for (int none = 8; none < 16; none++) {
            dueSet(0, none, 0);
            dueSet(255, none, 255);
        }
    }

    private static void dueSet(int set, int planted, int due) {
        for (int variant = 0; variant < 2000; variant++) {
            long seed = Seeds.withBits(PACKAGES, 1, 10, set, variant);
            BuildDrawer drawer = Due.drawn(seed, PACKAGES, 1);
            if (Seeds.bitsAt(seed, PACKAGES, 1, 1) % 16 == planted && Seeds.bitsAt(seed, PACKAGES, 1, 8) % 4 != 3) {
                Due.is("the set of " + set + ", " + planted + " being PLANTED", drawer.part(2, 2), due);
                return;
            }
        }
        Due.is("a seed with " + set + " and " + planted + " was found", false, true);
    }

    private static void theFirstTwoParts() {
        for (int kind = 0; kind < 8; kind++) {
            for (int bits = 0; bits < 4; bits++) {
                int before = chanceBefore(kind);
                BuildDrawer drawer = Due.drawn(Seeds.withBits(kind, 60, before + 1, bits, 3), kind, 60);
                Due.is("the SORT of PART 0", drawer.part(0, 0), 0);
                Due.is("A of PART 0, its first CHANCE", drawer.part(0, 1), bits);
                Due.is("what PART 0 needs", drawer.part(0, 3), BuildDrawer.NONE);
                drawer = Due.drawn(Seeds.withBits(kind, 60, before + 4, bits, 3), kind, 60);
                Due.is("the SORT of PART 1", drawer.part(1, 0), 1);
                Due.is("A of PART 1, its first CHANCE", drawer.part(1, 1), bits);
                Due.is("what PART 1 needs", drawer.part(1, 3), 0);
            }
        }
    }

    private static void sizeMore() {
        for (int kind = 0; kind < 8; kind++) {
            Due.is("PART 1 of SIZE 0", Due.drawn(9L, kind, 0).part(1, 0), 1);
            Due.is("PART 2 of SIZE 0", Due.drawn(9L, kind, 0).part(2, 0), -1);
            Due.is("PART 2 of SIZE 1 is there", Due.drawn(9L, kind, 1).part(2, 0) >= 0, true);
            Due.is("PART 3 of SIZE 1", Due.drawn(9L, kind, 1).part(3, 0), -1);
            Due.is("PART 61 of SIZE 60 is there", Due.drawn(9L, kind, 60).part(61, 0) >= 0, true);
            Due.is("PART 62 of SIZE 60", Due.drawn(9L, kind, 60).part(62, 0), -1);
        }
    }

    private static void threeIsAFile() {
        int[] bits = {0, 1, 2, 3, 4, 6, 7, Integer.MAX_VALUE - 1, Integer.MAX_VALUE};
        boolean[] isFile = {false, false, false, true, false, false, true, false, true};
        for (int kind = 0; kind < 8; kind++) {
            for (int i = 0; i < bits.length; i++) {
                long seed = Seeds.withBits(kind, 1, chanceBefore(kind) + 7, bits[i], 3);
                Due.is("the SORT of PART 2 of KIND " + kind + " by the bits " + bits[i],
                        Due.drawn(seed, kind, 1).part(2, 0), isFile[i] ? 0 : SORT_OF_KIND[kind]);
            }
        }
    }

    private static void theLeastAndTheMostA() {
        int[] chances = {1, 4, 8};
        for (int number = 0; number < 3; number++) {
            Due.is("the least A of PART " + number, withBits(0, chances[number], 0).part(number, 1), 0);
            Due.is("the most A of PART " + number, withBits(0, chances[number], 999).part(number, 1), 999);
            Due.is("A of PART " + number + " by 1000", withBits(0, chances[number], 1000).part(number, 1), 0);
        }
    }

    private static BuildDrawer withBits(int kind, int chance, int bits) {
        return Due.drawn(Seeds.withBits(kind, 1, chance, bits, 3), kind, 1);
    }

    /** B of PART 2 is CHANCE 9 (of KIND 1: 10); it has the KIND's SORT, or is a FILE, by CHANCE 7 (of KIND 1: 8). */
    private static void theLeastAndTheMostB() {
        for (int kind = 0; kind < 8; kind++) {
            int below = B_BELOW[SORT_OF_KIND[kind]];
            dueB(kind, SORT_OF_KIND[kind], 0, 0);
            dueB(kind, SORT_OF_KIND[kind], below - 1, below - 1);
            dueB(kind, SORT_OF_KIND[kind], below, 0);
            dueB(kind, 0, 0, 0);
            dueB(kind, 0, 99, 99);
            dueB(kind, 0, 100, 0);
        }
    }

    private static void dueB(int kind, int sort, int bits, int due) {
        for (int variant = 0; variant < 2000; variant++) {
            long seed = Seeds.withBits(kind, 1, chanceBefore(kind) + 9, bits, variant);
            BuildDrawer drawer = Due.drawn(seed, kind, 1);
            boolean isPlanted = kind == PACKAGES && Seeds.bitsAt(seed, kind, 1, 1) % 16 < 8;
            boolean isMore = kind == STEPS && Seeds.bitsAt(seed, kind, 1, 10) % 5 == 0;
            if (drawer.part(2, 0) == sort && (sort == 0 || !isPlanted && !isMore)) {
                Due.is("B of a " + SORTS[sort] + " of KIND " + kind + " by the bits " + bits, drawer.part(2, 2), due);
                return;
            }
        }
        Due.is("a " + SORTS[sort] + " of KIND " + kind + " was found", false, true);
    }

    /** Of PART 2, a STEP, B is CHANCE 9, the 100 more CHANCE 10, and the MARK CHANCE 11. */
    private static void hundredMore() {
        int[] bits = {0, 1, 2, 3, 4, 5, 6, Integer.MAX_VALUE - 2, Integer.MAX_VALUE};
        boolean[] isMore = {true, false, false, false, false, true, false, true, false};
        for (int i = 0; i < bits.length; i++) {
            for (int step = 0; step < 12; step++) {
                dueStep(bits[i], step, isMore[i] ? step + 100 : step);
            }
        }
    }

    private static void dueStep(int bits, int step, int due) {
        for (int variant = 0; variant < 2000; variant++) {
            long seed = Seeds.withBits(STEPS, 1, 10, bits, variant);
            BuildDrawer drawer = Due.drawn(seed, STEPS, 1);
            if (drawer.part(2, 0) == 4 && Seeds.bitsAt(seed, STEPS, 1, 9) % 12 == step) {
                Due.is("B of a STEP of " + step + " by the bits " + bits, drawer.part(2, 2), due);
                Due.is("the MARK behind it", drawer.part(2, 4), 1 << Seeds.bitsAt(seed, STEPS, 1, 11) % 8);
                return;
            }
        }
        Due.is("a STEP of " + step + " was found", false, true);
    }

    private static void theLeastAndTheMostMark() {
        int[] chances = {3, 6, 10};
        for (int number = 0; number < 3; number++) {
            for (int power = 0; power < 8; power++) {
                Due.is("the MARK of PART " + number, withBits(0, chances[number], power).part(number, 4), 1 << power);
            }
            Due.is("the MARK of PART " + number + " by 8", withBits(0, chances[number], 8).part(number, 4), 1);
        }
    }

    /** Of a PART from 2 on, of KIND 0, what it needs is the fifth of its CHANCES; PARTS 0 and 1 take six. */
    private static long needOf(int number, int bits) {
        return Due.drawn(Seeds.withBits(0, 60, 6 + 5 * (number - 1), bits, 3), 0, 60).part(number, 3);
    }

    private static void theFirstAndTheLastThatCanBeNeeded() {
        for (int number = 2; number < 62; number++) {
            Due.is("what PART " + number + " needs by 0", needOf(number, 0), 0);
            Due.is("what PART " + number + " needs by the one before it", needOf(number, number - 1), number - 1);
            Due.is("what PART " + number + " needs by its number and 1", needOf(number, number + 1), 0);
        }
    }

    private static void itsOwnNumberIsNone() {
        for (int number = 2; number < 62; number++) {
            Due.is("what PART " + number + " needs by its own number", needOf(number, number), BuildDrawer.NONE);
            Due.is("what PART " + number + " needs by its own number and once more its number and 1",
                    needOf(number, 2 * number + 1), BuildDrawer.NONE);
        }
    }
}
