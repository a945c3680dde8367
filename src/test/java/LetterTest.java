/** Promise 4: the signs of the TEXT of what is LEFT. */
public final class LetterTest {
    private static final String ALL =
            "F0(88,82);T1(320,5)<0;P2(351,227);P3(669,211);P4(594,88);P5(487,69)<2;F6(320,28)<0;P7(719,107)<1;P8(155,208)<1;";

    public static void main(String[] args) {
        signsInAnyOrder();
        theTextFollowsWhatIsLeft();
        theLongestTexts();
        Due.end();
    }

    private static void signsInAnyOrder() {
        BuildDrawer drawer = new BuildDrawer(0L);
        drawer.draw(1, 7);
        for (int i = ALL.length() - 1; i >= 0; i--) {
            Due.is("letter(" + i + ")", drawer.letter(i), ALL.charAt(i));
        }
        Due.is("letter behind the text", drawer.letter(ALL.length()), BuildDrawer.NONE);
        int[] noSigns = {-1, -2, 991, 992, 993, Integer.MIN_VALUE, Integer.MAX_VALUE};
        for (int i : noSigns) {
            Due.is("letter(" + i + ")", drawer.letter(i), BuildDrawer.NONE);
        }
    }

    private static void theTextFollowsWhatIsLeft() {
        BuildDrawer drawer = new BuildDrawer(0L);
        drawer.draw(1, 7);
        Due.is("the text", Due.textOf(drawer), ALL);
        drawer.verdict(64 | 2 | 128 | 4, true);
        Due.is("the text after a verdict alone", Due.textOf(drawer), ALL);
        drawer.shorter();
        Due.is("the text after shorter()", Due.textOf(drawer), "F0(88,82);T1(320,5)<0;P4(594,88);F6(320,28)<0;");
        drawer.verdict(1, true);
        drawer.shorter();
        Due.is("the text of all again", Due.textOf(drawer), ALL);
        drawer.verdict(0, true);
        drawer.shorter();
        Due.is("the text of nothing", Due.textOf(drawer), "");
        drawer.draw(0, 0);
        Due.is("the text of the next drawing", Due.textOf(drawer), "F0(807,24);T1(236,5)<0;");
    }

    private static void theLongestTexts() {
        int longest = 0;
        for (long seed = 0; seed < 40; seed++) {
            Model model = new Model(seed);
            model.draw(1, 60);
            Due.is("the text of draw(1, 60) by seed " + seed, Due.textOf(seed, 1, 60), model.text());
            longest = Math.max(longest, model.text().length());
        }
        Due.is("a text of more than 850 signs was among them", longest > 850, true);
    }
}
