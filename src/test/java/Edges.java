import java.io.IOException;
import java.nio.file.Files;
import java.nio.file.Path;
import java.util.Set;
import java.util.TreeSet;
import java.util.regex.Matcher;
import java.util.regex.Pattern;

/** Takes a script for each sentence of the document that names a boundary case, and sees that none is forgotten. */
final class Edges {
    private static final Path DOCUMENT = Path.of("../shared/DOC.md");
    private static final int PROMISES = 44;
    private static final String[] REFUSALS = {"NONE", "UNKNOWN", "OUTSIDE", "STATE", "ROOM"};
    // What a promise names, but its call never answers: it takes it, tells of another call, or needs more than 512 calls.
    private static final Set<String> BEYOND = Set.of("event:ROOM", "review:NONE", "fault:ROOM");

    private final Check check;
    private final String document;
    private final Set<String> answered = new TreeSet<>();
    private final Set<Integer> promises = new TreeSet<>();

    Edges(Check check) throws IOException {
        this.check = check;
        document = Files.exists(DOCUMENT) ? plain(Files.readString(DOCUMENT)) : "";
    }

    private static String plain(String text) {
        return text.replaceAll("\\s+", " ");
    }

    /** A promise, the document's words that name the case, and calls with the answers that are due by them. */
    void edge(int promise, String words, String script) {
        String title = "promise " + promise + ", '" + words + "'";
        check.due(title + " stands in the document", document.isEmpty() || document.contains(plain(words)) ? 1 : 0, 1);
        Script run = new Script(check, title);
        run.play(script);
        promises.add(promise);
        for (String answer : run.answered) {
            answered.add(promise + ":" + answer);
        }
    }

    /** Every promise has an edge, and every refusal that it names is answered there. */
    void nothingIsForgotten() {
        for (int p = 1; p <= PROMISES; p++) {
            check.due("promise " + p + " has an edge", promises.contains(p) ? 1 : 0, 1);
        }
        Pattern promise = Pattern.compile("## Promise (\\d+): (\\w+) `[^`]*`: (.*?)(?=## )");
        Matcher found = promise.matcher(document);
        while (found.find()) {
            for (int k = 0; k < REFUSALS.length; k++) {
                String call = found.group(2);
                boolean named = Pattern.compile("\\b" + REFUSALS[k] + "\\b").matcher(found.group(3)).find();
                if (named && !BEYOND.contains(call + ":" + REFUSALS[k])) {
                    boolean seen = answered.contains(found.group(1) + ":" + call + ":" + (-1 - k));
                    check.due("promise " + found.group(1) + ": " + call + " answers " + REFUSALS[k], seen ? 1 : 0, 1);
                }
            }
        }
    }
}
