/** Promise 4: the signs of the TEXT of what is LEFT. */
public final class LetterTest {
    private static final String ALL =
            "F0(88,82);T1(320,5)<0;P2(351,227);P3(669,211);P4(594,88);P5(487,69)<2;F6(320,28)<0;P7(719,107)<1;P8(155,208)<1;";

    public static void main(String[] args) {
        Due.sentence("Promise 4: sign i of the TEXT");
        signsInAnyOrder();
        theTextFollowsWhatIsLeft();
        theLongestTexts();
        theLongestTextFound();
        Due.sentence("Promise 4: NONE behind it");
        noneBehindTheText();
        noneBehindATextThatBecameShorter();
        Due.sentence("Promise 4: NONE below 0");
        noneBelowZero();
        Due.end();
    }

    private static void signsInAnyOrder() {
        BuildDrawer drawer = new BuildDrawer(0L);
        drawer.draw(1, 7);
        for (int i = ALL.length() - 1; i >= 0; i--) {
            Due.is("letter(" + i + ")", drawer.letter(i), ALL.charAt(i));
        }
    }

    private static void dueEnd(BuildDrawer drawer, int length) {
        if (length > 0) {
            Due.is("the last sign", drawer.letter(length - 1), ';');
        }
        int[] behind = {length, length + 1, 991, 992, 993, Integer.MAX_VALUE - 1, Integer.MAX_VALUE};
        for (int i : behind) {
            Due.is("letter(" + i + ") behind " + length + " signs", drawer.letter(i), BuildDrawer.NONE);
        }
    }

    private static void noneBehindTheText() {
        BuildDrawer drawer = new BuildDrawer(0L);
        dueEnd(drawer, 0);
        drawer.draw(1, 7);
        dueEnd(drawer, ALL.length());
        for (int kind = 0; kind < 8; kind++) {
            Model model = new Model(0L);
            model.draw(kind, 60);
            drawer.draw(kind, 60);
            dueEnd(drawer, model.text().length());
        }
    }

    /** The signs of the longer text must not show behind the shorter one. */
    private static void noneBehindATextThatBecameShorter() {
        BuildDrawer drawer = new BuildDrawer(0L);
        drawer.draw(1, 60);
        Due.is("letter(800) of a long text is there", drawer.letter(800) != BuildDrawer.NONE, true);
        drawer.draw(1, 7);
        dueEnd(drawer, ALL.length());
        drawer.verdict(128, true);
        drawer.shorter();
        dueEnd(drawer, "P4(594,88);".length());
        drawer.verdict(0, true);
        drawer.shorter();
        dueEnd(drawer, 0);
        drawer.verdict(0, false);
        drawer.shorter();
        dueEnd(drawer, ALL.length());
    }

    private static void noneBelowZero() {
        BuildDrawer drawer = new BuildDrawer(0L);
        int[] below = {-1, -2, -112, -992, Integer.MIN_VALUE + 1, Integer.MIN_VALUE};
        for (int i : below) {
            Due.is("letter(" + i + ") of nothing", drawer.letter(i), BuildDrawer.NONE);
        }
        drawer.draw(1, 7);
        for (int i : below) {
            Due.is("letter(" + i + ")", drawer.letter(i), BuildDrawer.NONE);
        }
        Due.is("letter(0)", drawer.letter(0), 'F');
    }

    private static void theTextFollowsWhatIsLeft() {
        BuildDrawer drawer = new BuildDrawer(0L);
        drawer.draw(1, 7);
        Due.is("the text", Due.textOf(drawer), ALL);
        drawer.verdict(64 | 2 | 128 | 4, true);
        Due.is("the text after a verdict alone", Due.textOf(drawer), ALL);
        drawer.shorter();
        Due.is("the text after shorter()", Due.textOf(drawer), "F0(88,82);T1(320,5)<0;P4(594,88);F6(320,28)<0;");
        drawer.verdict(1, true);
        drawer.shorter();
        Due.is("the text of all again", Due.textOf(drawer), ALL);
        drawer.verdict(0, true);
        drawer.shorter();
        Due.is("the text of nothing", Due.textOf(drawer), "");
        drawer.draw(0, 0);
        Due.is("the text of the next drawing", Due.textOf(drawer), "F0(807,24);T1(236,5)<0;");
    }

    private static void theLongestTexts() {
        for (long seed = 0; seed < 40; seed++) {
            dueWhole(seed, 1, 60);
        }
    }

    private static void dueWhole(long seed, int kind, int size) {
        Model model = new Model(seed);
        model.draw(kind, size);
        Due.is("the text of draw(" + kind + ", " + size + ") by seed " + seed, Due.textOf(seed, kind, size), model.text());
    }

    /** The longest text that a search of two thousand million seeds found; none can be longer than 966 signs. */
    private static void theLongestTextFound() {
        long seed = -6967673382301650870L;
        dueWhole(seed, 1, 60);
        Due.is("the signs of the longest text found", Due.textOf(seed, 1, 60).length(), 953);
        dueEnd(Due.drawn(seed, 1, 60), 953);
    }
}
