/**
 * Things to be built, drawn by a seed, and made smaller as long as a verdict stays.
 * ../shared/DOC.md says what each call promises.
 */
public final class BuildDrawer {
    public static final int NONE = -1;

    private static final int NOT_SUCH = -2;
    private static final int KINDS = 8;
    private static final int MAX_SIZE = 60;
    /** Every drawing begins with a file and a target, whatever its size. */
    private static final int FIRST_PARTS = 2;
    private static final int MAX_PARTS = MAX_SIZE + FIRST_PARTS;
    /** The longest part in the text is as long as P61(999,255)<60; . */
    private static final int MAX_SIGNS = MAX_PARTS * 16;
    /** Stands for a text that must be written anew, because what is left has changed. */
    private static final int NOT_WRITTEN = -1;

    private static final int FILE = 0;
    private static final int TARGET = 1;
    private static final int PACKAGE = 2;
    private static final int RULE = 3;
    private static final int STEP = 4;
    private static final int CHANGE = 5;
    private static final int LOSS = 6;
    private static final int RELEASE = 7;
    private static final int[] SORT_OF_KIND = {FILE, PACKAGE, TARGET, RULE, STEP, CHANGE, LOSS, RELEASE};
    private static final int KIND_OF_PACKAGES = 1;
    private static final String LETTERS = "FTPRSCLV";
    private static final int ALL_EIGHT = 255;

    private final long seed;
    private final Drawing mine = new Drawing();
    private final Drawing others = new Drawing();

    private int count = 0;
    private final int[] sorts = new int[MAX_PARTS];
    private final int[] as = new int[MAX_PARTS];
    private final int[] bs = new int[MAX_PARTS];
    private final int[] needs = new int[MAX_PARTS];
    private final int[] marks = new int[MAX_PARTS];
    private final boolean[] isLeft = new boolean[MAX_PARTS];

    private int verdictBits = 0;
    private boolean verdictStays = true;

    private final char[] text = new char[MAX_SIGNS];
    private int textLength = NOT_WRITTEN;

    public BuildDrawer(long seed) {
        this.seed = seed;
    }

    public int draw(int kind, int size) {
        if (!canBeDrawn(kind, size)) {
            return NOT_SUCH;
        }
        mine.begin(seed, kind, size);
        count = size + FIRST_PARTS;
        for (int i = 0; i < count && i < MAX_PARTS; i++) {
            mine.next();
            sorts[i] = mine.sort;
            as[i] = mine.a;
            bs[i] = mine.b;
            needs[i] = mine.need;
            marks[i] = mine.mark;
        }
        takeAllBack();
        return count;
    }

    public long part(int i, int what) {
        if (!isPart(i)) {
            return NONE;
        }
        switch (what) {
            case 0:
                return sorts[i];
            case 1:
                return as[i];
            case 2:
                return bs[i];
            case 3:
                return needs[i];
            case 4:
                return marks[i];
            case 5:
                return isLeft[i] ? 1 : 0;
            case 6:
                return Integer.bitCount(commonSet());
            default:
                return NOT_SUCH;
        }
    }

    public int letter(int i) {
        if (textLength == NOT_WRITTEN) {
            writeText();
        }
        if (i < 0 || i >= textLength || i >= MAX_SIGNS) {
            return NONE;
        }
        return text[i];
    }

    public void verdict(int bits, boolean stays) {
        verdictBits = bits & ALL_EIGHT;
        verdictStays = stays;
    }

    public int shorter() {
        if (holdsOf(marksLeft())) {
            leaveOutAllThatCanGo();
        } else {
            takeAllBack();
        }
        return countLeft();
    }

    public int left(int i) {
        if (i < 0) {
            return NONE;
        }
        int before = 0;
        for (int j = 0; j < count && j < MAX_PARTS; j++) {
            if (isLeft[j]) {
                if (before == i) {
                    return j;
                }
                before++;
            }
        }
        return NONE;
    }

    public boolean minimal() {
        for (int i = 0; i < count; i++) {
            if (canGo(i)) {
                return false;
            }
        }
        return true;
    }

    public boolean same(long other, int kind, int size) {
        if (!canBeDrawn(kind, size)) {
            return false;
        }
        mine.begin(seed, kind, size);
        others.begin(other, kind, size);
        for (int i = 0; i < size + FIRST_PARTS; i++) {
            mine.next();
            others.next();
            if (!mine.isAtTheLikeOf(others)) {
                return false;
            }
        }
        return true;
    }

    private static boolean canBeDrawn(int kind, int size) {
        return kind >= 0 && kind < KINDS && size >= 0 && size <= MAX_SIZE;
    }

    private boolean isPart(int i) {
        return i >= 0 && i < count && i < MAX_PARTS;
    }

    private void takeAllBack() {
        for (int i = 0; i < count && i < MAX_PARTS; i++) {
            isLeft[i] = true;
        }
        textLength = NOT_WRITTEN;
    }

    private int countLeft() {
        int number = 0;
        for (int i = 0; i < count && i < MAX_PARTS; i++) {
            if (isLeft[i]) {
                number++;
            }
        }
        return number;
    }

    private int marksLeft() {
        int together = 0;
        for (int i = 0; i < count && i < MAX_PARTS; i++) {
            if (isLeft[i]) {
                together |= marks[i];
            }
        }
        return together;
    }

    /** Without a package the set stays whole, which is the 8 that the document asks for. */
    private int commonSet() {
        int common = ALL_EIGHT;
        for (int i = 0; i < count && i < MAX_PARTS; i++) {
            if (isLeft[i] && sorts[i] == PACKAGE) {
                common &= bs[i];
            }
        }
        return common;
    }

    private boolean holdsOf(int together) {
        boolean all = (verdictBits & ~together) == 0;
        return all == verdictStays;
    }

    private boolean canGo(int i) {
        if (!isPart(i) || !isLeft[i]) {
            return false;
        }
        int without = 0;
        for (int j = 0; j < count && j < MAX_PARTS; j++) {
            if (j != i && isLeft[j]) {
                if (needs[j] == i) {
                    return false;
                }
                without |= marks[j];
            }
        }
        return holdsOf(without);
    }

    /** Each round but the last leaves out one part at least, so there are never more rounds than parts and one. */
    private void leaveOutAllThatCanGo() {
        boolean again = true;
        for (int round = 0; again && round <= MAX_PARTS; round++) {
            again = leaveOutFromLastToFirst();
        }
        textLength = NOT_WRITTEN;
    }

    private boolean leaveOutFromLastToFirst() {
        boolean anyWent = false;
        for (int i = count - 1; i >= 0; i--) {
            if (i < MAX_PARTS && canGo(i)) {
                isLeft[i] = false;
                anyWent = true;
            }
        }
        return anyWent;
    }

    private void writeText() {
        textLength = 0;
        for (int i = 0; i < count; i++) {
            if (isPart(i) && isLeft[i]) {
                writePart(i);
            }
        }
    }

    private void writePart(int i) {
        if (!isPart(i)) {
            return;
        }
        writeSign(letterOf(sorts[i]));
        writeNumber(i);
        writeSign('(');
        writeNumber(as[i]);
        writeSign(',');
        writeNumber(bs[i]);
        writeSign(')');
        if (needs[i] != NONE) {
            writeSign('<');
            writeNumber(needs[i]);
        }
        writeSign(';');
    }

    private static char letterOf(int sort) {
        return sort >= 0 && sort < LETTERS.length() ? LETTERS.charAt(sort) : '?';
    }

    /** No number of the text is below 0 or above 999. */
    private void writeNumber(int number) {
        if (number >= 100) {
            writeDigit(number / 100);
        }
        if (number >= 10) {
            writeDigit(number / 10 % 10);
        }
        writeDigit(number % 10);
    }

    private void writeDigit(int digit) {
        writeSign((char) ('0' + digit));
    }

    private void writeSign(char sign) {
        if (textLength >= 0 && textLength < MAX_SIGNS) {
            text[textLength] = sign;
            textLength++;
        }
    }

    /** The parts of one drawing, told one after the other, so that two drawings can be compared without rows. */
    private static final class Drawing {
        private static final long TIMES = 6364136223846793005L;
        private static final long PLUS = 1442695040888963407L;
        private static final long SEED_TIMES = 2862933555777941757L;

        private long word = 0L;
        private int sortOfKind = FILE;
        private int plantedBit = 0;
        private int number = NONE;
        private int sort = FILE;
        private int a = 0;
        private int b = 0;
        private int need = NONE;
        private int mark = 0;

        private void begin(long seed, int kind, int size) {
            word = (seed ^ kind) * SEED_TIMES + size;
            sortOfKind = kind >= 0 && kind < SORT_OF_KIND.length ? SORT_OF_KIND[kind] : FILE;
            plantedBit = kind == KIND_OF_PACKAGES ? bitOrNone(chance(16)) : 0;
            number = NONE;
        }

        private void next() {
            number++;
            sort = nextSort();
            a = chance(1000);
            b = nextB();
            mark = 1 << chance(8);
            need = nextNeed();
        }

        private boolean isAtTheLikeOf(Drawing other) {
            return other != null && sort == other.sort && a == other.a && b == other.b
                    && need == other.need && mark == other.mark;
        }

        private static int bitOrNone(int planted) {
            return planted < 8 ? 1 << planted : 0;
        }

        private int nextSort() {
            if (number == 0) {
                return FILE;
            }
            if (number == 1) {
                return TARGET;
            }
            return chance(4) == 3 ? FILE : sortOfKind;
        }

        private int nextB() {
            switch (sort) {
                case FILE:
                    return chance(100);
                case TARGET:
                    return chance(8);
                case PACKAGE:
                    return chance(256) | plantedBit;
                case RULE:
                    return chance(10);
                case STEP:
                    return nextBOfStep();
                case CHANGE:
                    return chance(5);
                case LOSS:
                    return chance(7);
                default:
                    return chance(6);
            }
        }

        private int nextBOfStep() {
            int below = chance(12);
            return chance(5) == 0 ? below + 100 : below;
        }

        private int nextNeed() {
            if (number == 0) {
                return NONE;
            }
            if (number == 1) {
                return 0;
            }
            int needed = chance(number + 1);
            return needed == number ? NONE : needed;
        }

        private int chance(int below) {
            word = word * TIMES + PLUS;
            int highest = (int) (word >>> 33);
            return below > 0 ? highest % below : 0;
        }
    }
}
