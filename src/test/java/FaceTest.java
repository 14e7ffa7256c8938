import java.io.IOException;
import java.lang.reflect.Constructor;
import java.lang.reflect.Field;
import java.lang.reflect.Method;
import java.lang.reflect.Modifier;
import java.nio.file.Files;
import java.nio.file.Path;
import java.util.HashSet;
import java.util.Set;
import java.util.TreeSet;
import java.util.regex.Pattern;

/** The public face is the document's, and the file keeps to the rules of the language that can be seen at once. */
public final class FaceTest {
    private static final Check CHECK = new Check("FaceTest");
    private static final String FACE = "assign:1 ball:2 breaks:2 can:2 chance:2 club:2 competition:0 count:1 cut:0 day:1 "
        + "deduct:3 drawing:2 drawn:1 eligible:3 enter:2 event:5 fault:0 firsts:2 lineUp:3 match:2 moved:1 official:2 "
        + "officialOf:1 onField:3 parted:3 person:0 plan:2 postpone:2 pot:2 register:4 review:6 row:3 rows:2 rule:2 "
        + "sign:1 standing:3 start:1 state:2 table:4 walkOver:2 ways:0 wipe:0 witness:1";
    private static final String[] BARRED = {"\\btry\\b", "\\bcatch\\b", "\\bthrow\\b", "\\bfinally\\b", "->", "::",
        "\\bassert\\b", "\\bsynchronized\\b", "Exact\\b", "\\bSystem\\.(?!arraycopy)", "\\bimport (?!java\\.util\\.Arrays;)",
        "\\.equals\\(", "\\.toString\\(", "\\bpackage\\b", "\\bprotected\\b", "\" \\+|\\+ \""};

    public static void main(String[] args) throws IOException {
        face();
        members();
        source();
        CHECK.end();
    }

    private static void face() {
        Set<String> found = new TreeSet<>();
        for (Method method : SportsHouse.class.getDeclaredMethods()) {
            if (Modifier.isPublic(method.getModifiers())) {
                found.add(method.getName() + ":" + method.getParameterCount());
                CHECK.due(method.getName() + " answers an int", method.getReturnType() == int.class ? 1 : 0, 1);
            }
        }
        CHECK.due("the face is " + found, String.join(" ", found).equals(FACE) ? 1 : 0, 1);
        Constructor<?>[] constructors = SportsHouse.class.getDeclaredConstructors();
        CHECK.due("constructors", constructors.length, 1);
        CHECK.due("its parameters", constructors[0].getParameterCount(), 0);
        CHECK.due("NONE", SportsHouse.NONE, -1);
        CHECK.due("UNKNOWN", SportsHouse.UNKNOWN, -2);
        CHECK.due("OUTSIDE", SportsHouse.OUTSIDE, -3);
        CHECK.due("STATE", SportsHouse.STATE, -4);
        CHECK.due("ROOM", SportsHouse.ROOM, -5);
    }

    private static void members() {
        Set<String> names = new HashSet<>();
        for (Method method : SportsHouse.class.getDeclaredMethods()) {
            if (Modifier.isPublic(method.getModifiers())) {
                names.add(method.getName());
            } else {
                CHECK.due(method.getName() + " is private", Modifier.isPrivate(method.getModifiers()) ? 1 : 0, 1);
            }
        }
        for (Field field : SportsHouse.class.getDeclaredFields()) {
            boolean constant = Modifier.isPublic(field.getModifiers()) && Modifier.isStatic(field.getModifiers());
            boolean right = Modifier.isFinal(field.getModifiers())
                && (constant || Modifier.isPrivate(field.getModifiers()));
            CHECK.due(field.getName() + " is private or a constant", right ? 1 : 0, 1);
        }
        CHECK.due("classes", SportsHouse.class.getDeclaredClasses().length <= 11 ? 1 : 0, 1);
        for (Class<?> inside : SportsHouse.class.getDeclaredClasses()) {
            CHECK.due(inside + " is static", Modifier.isStatic(inside.getModifiers()) ? 1 : 0, 1);
            for (Method method : inside.getDeclaredMethods()) {
                CHECK.due(inside + "." + method.getName(), names.contains(method.getName()) ? 1 : 0, 0);
                CHECK.due(method.getName() + " has seven parameters at most",
                    method.getParameterCount() <= 7 ? 1 : 0, 1);
            }
        }
    }

    private static void source() throws IOException {
        String text = Files.readString(Path.of("src/main/java/SportsHouse.java"));
        String bare = text.replaceAll("(?s)/\\*.*?\\*/", "").replaceAll("//[^\n]*", "");
        for (String barred : BARRED) {
            CHECK.due("the source has " + barred, Pattern.compile(barred).matcher(bare).find() ? 1 : 0, 0);
        }
    }
}
