/** Prints every answer that is not the one that is due, and ends the test with exit code 1 if there was one. */
final class Due {
    private static int wrong = 0;
    private static int asked = 0;

    private Due() {
    }

    static void is(String call, long got, long want) {
        asked++;
        if (got != want) {
            wrong++;
            System.out.println(call + " answered " + got + ", due is " + want);
        }
    }

    static void is(String call, boolean got, boolean want) {
        is(call, got ? 1L : 0L, want ? 1L : 0L);
    }

    static void is(String call, String got, String want) {
        asked++;
        if (!got.equals(want)) {
            wrong++;
            System.out.println(call + " answered " + got + ", due is " + want);
        }
    }

    static boolean anyWrong() {
        return wrong != 0;
    }

    static void end() {
        System.out.println(wrong == 0 ? asked + " answers are as due" : wrong + " of " + asked + " answers are not as due");
        if (wrong != 0) {
            System.exit(1);
        }
    }

    /** The whole text, letter by letter up to the first NONE; for short ones, as an object has but 512 calls. */
    static String textOf(BuildDrawer drawer) {
        StringBuilder text = new StringBuilder();
        for (int i = 0; i < 200; i++) {
            int sign = drawer.letter(i);
            if (sign == BuildDrawer.NONE) {
                return text.toString();
            }
            text.append((char) sign);
        }
        return text.append(" and no end").toString();
    }

    /** The whole text of a drawing, with a new object for each 500 letters, as an object has but 512 calls. */
    static String textOf(long seed, int kind, int size) {
        StringBuilder text = new StringBuilder();
        for (int from = 0; from < 2000; from += 500) {
            BuildDrawer drawer = new BuildDrawer(seed);
            drawer.draw(kind, size);
            for (int i = from; i < from + 500; i++) {
                int sign = drawer.letter(i);
                if (sign == BuildDrawer.NONE) {
                    return text.toString();
                }
                text.append((char) sign);
            }
        }
        return text.append(" and no end").toString();
    }

    /** The numbers of all that is left, each with a blank behind it. */
    static String leftOf(BuildDrawer drawer) {
        StringBuilder numbers = new StringBuilder();
        for (int i = 0; i < 100; i++) {
            int number = drawer.left(i);
            if (number == BuildDrawer.NONE) {
                return numbers.toString();
            }
            numbers.append(number).append(' ');
        }
        return numbers.append(" and no end").toString();
    }

    /** One thing of each of the first PARTS, each with a blank behind it. */
    static String partsOf(BuildDrawer drawer, int parts, int what) {
        StringBuilder answers = new StringBuilder();
        for (int i = 0; i < parts; i++) {
            answers.append(drawer.part(i, what)).append(' ');
        }
        return answers.toString();
    }
}
