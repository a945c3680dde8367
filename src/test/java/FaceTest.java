import java.lang.reflect.Constructor;
import java.lang.reflect.Field;
import java.lang.reflect.Method;
import java.lang.reflect.Modifier;
import java.util.TreeSet;

/** The public face: the document's members, and no other that can be seen from outside. */
public final class FaceTest {
    public static void main(String[] args) {
        Due.sentence("The public face, and LANGUAGE.md's rules 1 and 5 on what can be seen and what is static");
        Due.is("modifiers of the class", Modifier.toString(BuildDrawer.class.getModifiers()), "public final");
        TreeSet<String> seen = new TreeSet<>();
        for (Constructor<?> constructor : BuildDrawer.class.getDeclaredConstructors()) {
            add(seen, constructor.getModifiers(), constructor.toString());
        }
        for (Method method : BuildDrawer.class.getDeclaredMethods()) {
            add(seen, method.getModifiers(), method.toString());
        }
        for (Field field : BuildDrawer.class.getDeclaredFields()) {
            add(seen, field.getModifiers(), field.toString());
            staticsAreFinal(field);
        }
        TreeSet<String> face = new TreeSet<>();
        face.add("public static final int BuildDrawer.NONE");
        face.add("public BuildDrawer(long)");
        face.add("public int BuildDrawer.draw(int,int)");
        face.add("public long BuildDrawer.part(int,int)");
        face.add("public int BuildDrawer.letter(int)");
        face.add("public void BuildDrawer.verdict(int,boolean)");
        face.add("public int BuildDrawer.shorter()");
        face.add("public int BuildDrawer.left(int)");
        face.add("public boolean BuildDrawer.minimal()");
        face.add("public boolean BuildDrawer.same(long,int,int)");
        Due.is("the face", seen.toString(), face.toString());
        Due.is("NONE", BuildDrawer.NONE, -1);
        Due.end();
    }

    private static void add(TreeSet<String> seen, int modifiers, String member) {
        if (!Modifier.isPrivate(modifiers)) {
            seen.add(member);
        }
    }

    private static void staticsAreFinal(Field field) {
        int modifiers = field.getModifiers();
        Due.is("final: " + field, !Modifier.isStatic(modifiers) || Modifier.isFinal(modifiers), true);
    }
}
