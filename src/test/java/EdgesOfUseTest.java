/** "What it is": an object is used for at most 512 calls after it has been made, so the 512th is still as due. */
public final class EdgesOfUseTest {
    private static final int CALLS = 512;
    private static final String ALL =
            "F0(88,82);T1(320,5)<0;P2(351,227);P3(669,211);P4(594,88);P5(487,69)<2;F6(320,28)<0;P7(719,107)<1;P8(155,208)<1;";

    public static void main(String[] args) {
        Due.sentence("an object is used for at most 512 calls: each of the face as the 512th");
        eachCallAsTheLast();
        Due.sentence("an object is used for at most 512 calls: all of one kind");
        drawingsAlone();
        comparisonsAlone();
        lettersAlone();
        shorteningsAlone();
        refusedCallsAlone();
        Due.sentence("an object is used for at most 512 calls: the first one is remembered by the 512th");
        theFirstCallIsRemembered();
        Due.end();
    }

    /** The object has had 511 calls. */
    private static BuildDrawer usedUpToTheLast() {
        BuildDrawer drawer = new BuildDrawer(0L);
        drawer.draw(1, 60);
        drawer.verdict(4, true);
        for (int call = 3; call <= CALLS - 3; call++) {
            drawer.letter(call);
        }
        drawer.draw(1, 7);
        drawer.verdict(128, true);
        return drawer;
    }

    private static void eachCallAsTheLast() {
        Due.is("the last draw(2, 60)", usedUpToTheLast().draw(2, 60), 62);
        Due.is("the last draw(8, 60)", usedUpToTheLast().draw(8, 60), -2);
        Due.is("the last part(8, 2)", usedUpToTheLast().part(8, 2), 208);
        Due.is("the last letter(0)", usedUpToTheLast().letter(0), 'F');
        Due.is("the last letter(111)", usedUpToTheLast().letter(ALL.length() - 1), ';');
        Due.is("the last shorter()", usedUpToTheLast().shorter(), 1);
        Due.is("the last left(8)", usedUpToTheLast().left(8), 8);
        Due.is("the last minimal()", usedUpToTheLast().minimal(), false);
        Due.is("the last same(0, 1, 60)", usedUpToTheLast().same(0L, 1, 60), true);
    }

    private static void drawingsAlone() {
        BuildDrawer drawer = new BuildDrawer(0L);
        for (int call = 1; call <= CALLS; call++) {
            int size = call % 2 == 0 ? 60 : call % 60;
            Due.is("draw number " + call, drawer.draw(call % 8, size), size + 2);
        }
    }

    private static void comparisonsAlone() {
        BuildDrawer drawer = new BuildDrawer(0L);
        for (int call = 1; call <= CALLS; call++) {
            Due.is("same number " + call, drawer.same(call % 2, call % 8, 60), call % 2 == 0);
        }
    }

    private static void lettersAlone() {
        BuildDrawer drawer = new BuildDrawer(0L);
        drawer.draw(1, 7);
        for (int call = 2; call <= CALLS; call++) {
            int at = call % ALL.length();
            Due.is("letter(" + at + ") as call " + call, drawer.letter(at), ALL.charAt(at));
        }
    }

    private static void shorteningsAlone() {
        BuildDrawer drawer = new BuildDrawer(0L);
        drawer.draw(1, 7);
        for (int call = 2; call + 1 <= CALLS; call += 2) {
            boolean nothingLeft = call / 2 % 2 == 0;
            drawer.verdict(0, !nothingLeft);
            Due.is("shorter() as call " + (call + 1), drawer.shorter(), nothingLeft ? 9 : 0);
        }
    }

    private static void refusedCallsAlone() {
        BuildDrawer drawer = new BuildDrawer(0L);
        for (int call = 1; call <= CALLS; call++) {
            Due.is("refused draw number " + call, drawer.draw(8, 60), -2);
        }
    }

    private static void theFirstCallIsRemembered() {
        BuildDrawer drawer = new BuildDrawer(0L);
        drawer.draw(1, 7);
        for (int call = 2; call < CALLS; call++) {
            drawer.same(call, 4, 60);
        }
        Due.is("part(8, 1) as call 512", drawer.part(8, 1), 155);
    }
}
