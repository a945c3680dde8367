/** Prints every answer that is not the one that is due, and ends the test with exit code 1 if there was one. */
final class Due {
    private static int wrong = 0;
    private static int asked = 0;
    private static int askedOfSentence = 0;
    private static int sentences = 0;
    private static String sentence = "";

    private Due() {
    }

    /** What is asked from here on is asked of this sentence of the document. */
    static void sentence(String words) {
        endSentence();
        sentence = words;
        sentences++;
        askedOfSentence = 0;
    }

    private static void endSentence() {
        if (sentences > 0 && askedOfSentence == 0) {
            wrong++;
            System.out.println("nothing was asked of: " + sentence);
        }
    }

    private static void count(String call, boolean right, String got, String want) {
        asked++;
        askedOfSentence++;
        if (!right) {
            wrong++;
            System.out.println("[" + sentence + "] " + call + " answered " + got + ", due is " + want);
        }
    }

    static void is(String call, long got, long want) {
        count(call, got == want, Long.toString(got), Long.toString(want));
    }

    static void is(String call, boolean got, boolean want) {
        is(call, got ? 1L : 0L, want ? 1L : 0L);
    }

    static void is(String call, String got, String want) {
        count(call, got.equals(want), got, want);
    }

    static boolean anyWrong() {
        return wrong != 0;
    }

    static void end() {
        endSentence();
        String told = " (" + sentences + " sentences)";
        System.out.println(wrong == 0 ? asked + " answers are as due" + told : wrong + " of " + asked + " answers are not as due" + told);
        if (wrong != 0) {
            System.exit(1);
        }
    }

    static BuildDrawer drawn(long seed, int kind, int size) {
        BuildDrawer drawer = new BuildDrawer(seed);
        drawer.draw(kind, size);
        return drawer;
    }

    /** The whole text, letter by letter up to the first NONE; for short ones, as an object has but 512 calls. */
    static String textOf(BuildDrawer drawer) {
        StringBuilder text = new StringBuilder();
        for (int i = 0; i < 200; i++) {
            int sign = drawer.letter(i);
            if (sign == BuildDrawer.NONE) {
                return text.toString();
            }
            text.append((char) sign);
        }
        return text.append(" and no end").toString();
    }

    /** The whole text of a drawing, with a new object for each 500 letters, as an object has but 512 calls. */
    static String textOf(long seed, int kind, int size) {
        StringBuilder text = new StringBuilder();
        for (int from = 0; from < 2000; from += 500) {
            BuildDrawer drawer = new BuildDrawer(seed);
            drawer.draw(kind, size);
            for (int i = from; i < from + 500; i++) {
                int sign = drawer.letter(i);
                if (sign == BuildDrawer.NONE) {
                    return text.toString();
                }
                text.append((char) sign);
            }
        }
        return text.append(" and no end").toString();
    }

    /** The numbers of all that is left, each with a blank behind it. */
    static String leftOf(BuildDrawer drawer) {
        StringBuilder numbers = new StringBuilder();
        for (int i = 0; i < 100; i++) {
            int number = drawer.left(i);
            if (number == BuildDrawer.NONE) {
                return numbers.toString();
            }
            numbers.append(number).append(' ');
        }
        return numbers.append(" and no end").toString();
    }

    /** All that can be asked of a small drawing, to tell whether a call changed anything. */
    static String stateOf(BuildDrawer drawer) {
        StringBuilder state = new StringBuilder(textOf(drawer)).append(leftOf(drawer)).append(drawer.minimal());
        for (int what = 0; what <= 6; what++) {
            state.append(" / ").append(partsOf(drawer, 10, what));
        }
        return state.toString();
    }

    /** One thing of each of the first PARTS, each with a blank behind it. */
    static String partsOf(BuildDrawer drawer, int parts, int what) {
        StringBuilder answers = new StringBuilder();
        for (int i = 0; i < parts; i++) {
            answers.append(drawer.part(i, what)).append(' ');
        }
        return answers.toString();
    }
}
