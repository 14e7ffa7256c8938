import java.io.IOException;
import java.lang.reflect.Method;
import java.lang.reflect.Modifier;
import java.nio.file.Files;
import java.nio.file.Path;
import java.util.regex.Matcher;
import java.util.regex.Pattern;

/** README.md names every call, and its example is made of these very calls and answers what it says. */
public final class ReadmeTest {
    private static final Check CHECK = new Check("ReadmeTest");

    public static void main(String[] args) throws IOException {
        String readme = Files.readString(Path.of("README.md"));
        example();
        sameExample(readme);
        calls(readme);
        CHECK.end();
    }

    private static void example() {
        SportsHouse house = new SportsHouse();
        for (char c : "order head, diff; redo; field 1;".toCharArray()) {
            house.sign(c);
        }
        int league = house.competition();
        int reds = house.club(0, 3);
        int blues = house.club(1, 3);
        house.enter(league, reds);
        house.enter(league, blues);
        int match = house.plan(league, 4);
        int ann = house.person();
        int bea = house.person();
        house.register(ann, reds, 0, 999);
        house.register(bea, blues, 0, 999);
        house.lineUp(ann, match, 0);
        house.lineUp(bea, match, 1);
        int early = house.start(match);
        house.day(4);
        house.start(match);
        int goal = house.event(match, 1, 0, ann, 0);
        int wrong = house.event(match, 1, 0, bea, 0);
        house.event(match, 0, 0, 0, 0);
        house.event(match, 0, 0, 0, 0);
        house.event(match, 0, 0, 0, 0);
        int points = house.table(league, 4, reds, 6);
        int second = house.standing(league, 4, 1);
        CHECK.due("league", league, 0);
        CHECK.due("reds", reds, 0);
        CHECK.due("blues", blues, 1);
        CHECK.due("match", match, 0);
        CHECK.due("ann", ann, 0);
        CHECK.due("bea", bea, 1);
        CHECK.due("early", early, SportsHouse.STATE);
        CHECK.due("goal", goal, 1);
        CHECK.due("wrong", wrong, -14);
        CHECK.due("points", points, 3);
        CHECK.due("second", second, 1);
    }

    /** The example's lines stand above in the same order, and the answers in its comments are those that are due. */
    private static void sameExample(String readme) throws IOException {
        String own = Files.readString(Path.of("src/test/java/ReadmeTest.java"));
        Matcher block = Pattern.compile("(?s)```java\n(.*?)```").matcher(readme);
        boolean found = block.find();
        CHECK.due("there is an example", found ? 1 : 0, 1);
        int at = 0;
        for (String line : found ? block.group(1).split("\n") : new String[0]) {
            String[] parts = line.split(" +// ", 2);
            at = own.indexOf("        " + parts[0] + "\n", Math.max(at, 0) + 1);
            CHECK.due("'" + parts[0] + "' is one of the calls above", at > 0 ? 1 : 0, 1);
            Matcher told = Pattern.compile("^-?\\d+").matcher(parts.length > 1 ? parts[1] : "");
            if (told.find() && parts[0].startsWith("int ")) {
                CHECK.due(line, dueOf(own, parts[0].split(" ")[1]), Long.parseLong(told.group()));
            }
        }
    }

    private static long dueOf(String own, String name) {
        Matcher due = Pattern.compile("CHECK\\.due\\(\"" + name + "\", " + name + ", ([^)]+)\\);").matcher(own);
        if (!due.find()) {
            return Long.MIN_VALUE;
        }
        return due.group(1).equals("SportsHouse.STATE") ? SportsHouse.STATE : Long.parseLong(due.group(1));
    }

    private static void calls(String readme) {
        for (Method method : SportsHouse.class.getDeclaredMethods()) {
            if (Modifier.isPublic(method.getModifiers())) {
                String name = "`" + method.getName() + "`";
                CHECK.due(name + " is named", readme.contains(name) ? 1 : 0, 1);
            }
        }
        for (String name : new String[] {"-1 `NONE`", "-2 `UNKNOWN`", "-3 `OUTSIDE`", "-4 `STATE`", "-5 `ROOM`"}) {
            CHECK.due(name + " is told", readme.contains("| " + name + " |") ? 1 : 0, 1);
        }
    }
}
