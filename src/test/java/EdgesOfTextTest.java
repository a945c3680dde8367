/** "Terms", THE TEXT of what is LEFT: numbers of one, two and three digits, needs or none, and a TEXT of nothing. */
public final class EdgesOfTextTest {
    private static final int PACKAGES = 1;
    private static final int STEPS = 4;

    public static void main(String[] args) {
        Due.sentence("THE TEXT of what is LEFT: of nothing it is empty");
        theTextOfNothing();
        Due.sentence("THE TEXT of what is LEFT: what is left out isn't in it");
        theTextOfSome();
        Due.sentence("of each PART in order: its letter");
        everyLetter();
        Due.sentence("its number: of one digit, and of two");
        everyNumber();
        Due.sentence("( A , B ): A of one digit, of two and of three");
        everyLengthOfA();
        Due.sentence("( A , B ): B of one digit, of two and of three");
        everyLengthOfB();
        Due.sentence("if it needs one, < and that one's number");
        everyLengthOfNeeds();
        Due.sentence("if it needs none, no <");
        noNeed();
        Due.end();
    }

    private static String[] partsOfText(long seed, int kind, int size) {
        return Due.textOf(seed, kind, size).split(";");
    }

    private static void theTextOfNothing() {
        Due.is("the text of a new object", Due.textOf(new BuildDrawer(0L)), "");
        BuildDrawer drawer = Due.drawn(0L, 1, 7);
        drawer.shorter();
        Due.is("the text, all being left out", Due.textOf(drawer), "");
    }

    private static void theTextOfSome() {
        BuildDrawer drawer = Due.drawn(0L, 1, 7);
        drawer.verdict(4, true);
        drawer.shorter();
        Due.is("the text of PARTS 0 and 6", Due.textOf(drawer), "F0(88,82);F6(320,28)<0;");
        drawer.verdict(128, true);
        drawer.shorter();
        drawer.shorter();
        Due.is("the text of PART 4", Due.textOf(drawer), "P4(594,88);");
    }

    private static void everyLetter() {
        String letters = "FPTRSCLV";
        for (int kind = 0; kind < 8; kind++) {
            String[] parts = partsOfText(0L, kind, 60);
            Due.is("how many are told of KIND " + kind, parts.length, 62);
            Due.is("the letter of PART 0", parts[0].charAt(0), 'F');
            Due.is("the letter of PART 1", parts[1].charAt(0), 'T');
            BuildDrawer drawer = Due.drawn(0L, kind, 60);
            for (int i = 2; i < 62; i++) {
                Due.is("the letter of PART " + i, parts[i].charAt(0), drawer.part(i, 0) == 0 ? 'F' : letters.charAt(kind));
            }
        }
    }

    private static void everyNumber() {
        String[] parts = partsOfText(0L, 0, 60);
        for (int i = 0; i < 62; i++) {
            Due.is("PART " + i + " in the text", parts[i].substring(1, parts[i].indexOf('(')), Integer.toString(i));
        }
    }

    private static void everyLengthOfA() {
        int[] lengths = {0, 1, 9, 10, 11, 99, 100, 101, 109, 110, 900, 990, 999};
        for (int a : lengths) {
            String text = Due.textOf(Due.drawn(Seeds.withBits(0, 0, 1, a, 3), 0, 0));
            Due.is("A in the text", text.substring(0, text.indexOf(',') + 1), "F0(" + a + ",");
        }
    }

    private static void everyLengthOfB() {
        int[] lengths = {0, 1, 9, 10, 11, 90, 99};
        for (int b : lengths) {
            String text = Due.textOf(Due.drawn(Seeds.withBits(0, 0, 2, b, 3), 0, 0));
            Due.is("B of a FILE in the text", text.substring(text.indexOf(','), text.indexOf(';')), "," + b + ")");
        }
        int[] sets = {0, 9, 10, 99, 100, 109, 110, 200, 255};
        for (int set : sets) {
            dueB(Seeds.withBits(PACKAGES, 1, 10, set, 3), PACKAGES);
        }
        for (int step = 0; step < 12; step++) {
            dueB(Seeds.withBits(STEPS, 1, 9, step, 3), STEPS);
            dueB(Seeds.withBits(STEPS, 1, 10, 0, step), STEPS);
        }
    }

    private static void dueB(long seed, int kind) {
        String part = partsOfText(seed, kind, 1)[2];
        Due.is("B of PART 2 in the text", part.substring(part.indexOf(','), part.indexOf(')') + 1),
                "," + Due.drawn(seed, kind, 1).part(2, 2) + ")");
    }

    /** Of PART 61 of KIND 0 what it needs is CHANCE 306. */
    private static String endOfLast(int need) {
        String part = partsOfText(Seeds.withBits(0, 60, 306, need, 3), 0, 60)[61];
        return part.substring(part.indexOf(')'));
    }

    private static void everyLengthOfNeeds() {
        int[] needs = {0, 1, 9, 10, 11, 59, 60};
        for (int need : needs) {
            Due.is("what PART 61 needs in the text", endOfLast(need), ")<" + need);
        }
    }

    private static void noNeed() {
        Due.is("behind ) of PART 61, which needs none", endOfLast(61), ")");
        Due.is("the text of PART 0", partsOfText(0L, 0, 0)[0], "F0(807,24)");
    }
}
