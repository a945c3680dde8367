import java.io.IOException;
import java.nio.file.Files;
import java.nio.file.Path;

/** README.md's example: the calls of it, in its order, answer what it tells. Runs in the project's folder. */
public final class ReadmeTest {
    public static void main(String[] args) throws IOException {
        Due.sentence("README.md: how to use the class");
        String readme = Files.readString(Path.of("README.md"));
        BuildDrawer drawer = new BuildDrawer(0L);
        tells(readme, "drawer.draw(1, 7);", Integer.toString(drawer.draw(1, 7)));
        tells(readme, "drawer.part(4, 2);", Long.toString(drawer.part(4, 2)));
        drawer.verdict(128, true);
        tells(readme, "drawer.shorter();", Integer.toString(drawer.shorter()));
        tells(readme, "drawer.left(0);", Integer.toString(drawer.left(0)));
        tells(readme, "drawer.letter(0);", Integer.toString(drawer.letter(0)));
        Due.is("the text in README.md", readme.contains("of the text " + Due.textOf(drawer)), true);
        tells(readme, "drawer.minimal();", Boolean.toString(drawer.minimal()));
        tells(readme, "drawer.same(1L, 1, 7);", Boolean.toString(drawer.same(1L, 1, 7)));
        Due.end();
    }

    private static void tells(String readme, String call, String answer) {
        Due.is(call, answer, toldOf(readme, call));
    }

    /** What stands between the two slashes and the colon behind a call. */
    private static String toldOf(String readme, String call) {
        for (String line : readme.split("\n")) {
            int comment = line.indexOf("// ");
            int colon = line.indexOf(':', comment + 1);
            if (line.startsWith(call) && comment >= 0 && colon >= 0) {
                return line.substring(comment + 3, colon);
            }
        }
        return "not told";
    }
}
