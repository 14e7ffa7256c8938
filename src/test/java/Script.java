import java.util.ArrayList;
import java.util.List;
import java.util.Set;
import java.util.TreeSet;

/**
 * A run of calls on one house, told line by line, with the answers that are due:
 * 'club 0 0 = 0', several of them parted by ' | '. Without an answer the call must not be refused.
 * '12* club @ 0 = 0..' is twelve calls, @ being 0 to 11, and so many answers from 0 on.
 * Behind each call that is refused or only looks, the house is compared with one without that call.
 */
final class Script {
    private static final Set<String> LOOKS = Set.of("fault", "rule", "match", "breaks", "moved", "eligible", "rows", "row",
        "state", "onField", "table", "standing", "parted", "witness", "cut", "firsts", "ways", "chance", "drawn",
        "officialOf", "count");
    private static final List<String> NAMES = List.of("NONE", "UNKNOWN", "OUTSIDE", "STATE", "ROOM");

    /** Every call with its answer, as 'club:-3'. */
    final Set<String> answered = new TreeSet<>();
    private final Check check;
    private final String title;
    private final SportsHouse house = new SportsHouse();
    // The calls that made the house what it is: those that are refused or look are not among them.
    private final List<Call> made = new ArrayList<>();
    private int asked;
    private List<List<Call>> tails;
    private List<List<Integer>> due;

    Script(Check check, String title) {
        this.check = check;
        this.title = title;
    }

    void play(String script) {
        for (String line : script.split("\n")) {
            for (String part : line.split(" \\| ")) {
                if (!part.isBlank()) {
                    playPart(part.trim());
                }
            }
        }
        check.due(title + ": " + asked + " calls are within " + Calls.MOST, asked <= Calls.MOST ? 1 : 0, 1);
    }

    private void playPart(String part) {
        int star = part.indexOf("* ");
        int times = star > 0 ? Integer.parseInt(part.substring(0, star)) : 1;
        String rest = star > 0 ? part.substring(star + 2) : part;
        int equals = rest.lastIndexOf(" = ");
        String answer = equals < 0 ? "" : rest.substring(equals + 3).trim();
        String words = equals < 0 ? rest : rest.substring(0, equals);
        for (int k = 0; k < times; k++) {
            String told = answer.endsWith("..")
                ? Integer.toString(Integer.parseInt(answer.substring(0, answer.length() - 2)) + k) : answer;
            playOne(words.replace("@", Integer.toString(k)), told);
        }
    }

    private void playOne(String words, String answer) {
        String[] word = words.trim().split(" ");
        switch (word[0]) {
            case "rules": rules(behind(words, 1), answer); break;
            case "league": league(number(word[1]), number(word[2]), behind(words, 3)); break;
            case "begun": begun(number(word[1]), behind(words, 2)); break;
            case "clubs": clubs(number(word[1])); break;
            case "score": score(number(word[1]), number(word[2]), number(word[3])); break;
            case "whistles": whistles(number(word[1])); break;
            default:
                int[] numbers = new int[word.length - 1];
                for (int k = 1; k < word.length; k++) {
                    numbers[k - 1] = number(word[k]);
                }
                ask(answer, word[0], numbers);
        }
    }

    /** What stands behind so many words. */
    private static String behind(String words, int count) {
        String rest = words;
        for (int k = 0; k < count; k++) {
            int blank = rest.indexOf(' ');
            rest = blank < 0 ? "" : rest.substring(blank + 1);
        }
        return rest;
    }

    private static int number(String word) {
        switch (word) {
            case "MIN": return Integer.MIN_VALUE;
            case "MAX": return Integer.MAX_VALUE;
            case "false": return 0;
            case "true": return 1;
            default: return NAMES.contains(word) ? -1 - NAMES.indexOf(word) : Integer.parseInt(word);
        }
    }

    private void rules(String text, String answer) {
        for (char c : text.toCharArray()) {
            ask("", "sign", c == '~' ? 10 : c);
        }
        ask(answer, "competition");
    }

    private void clubs(int n) {
        for (int k = 0; k < n; k++) {
            ask("", "club", k, k % 8);
        }
    }

    /** Competition 0 of so many clubs from day 0 on, each with so many persons, numbered club by club. */
    private void league(int clubs, int each, String text) {
        rules(text, "0");
        clubs(clubs);
        for (int k = 0; k < clubs * each; k++) {
            ask("", "person");
            ask("", "register", k, k / each, 0, 999);
        }
        for (int k = 0; k < clubs; k++) {
            ask("", "enter", 0, k);
        }
        ask("0", "plan", 0, 0);
    }

    /** Two clubs whose persons are all on the sheets, and match 0, that goes on. */
    private void begun(int each, String text) {
        league(2, each, text);
        for (int p = 0; p < 2 * each; p++) {
            ask("", "lineUp", p, 0, p / each);
        }
        ask("1", "start", 0);
    }

    /** Plays a football match of clubs of one person each, whose number is the club's, on its day. */
    private void score(int m, int forHome, int forAway) {
        if (house.count(7) < house.match(m, 4)) {
            ask("", "day", house.match(m, 4));
        }
        int home = house.match(m, 2);
        int away = house.match(m, 3);
        ask("", "lineUp", home, m, 0);
        ask("", "lineUp", away, m, 1);
        ask("1", "start", m);
        for (int k = 0; k < forHome; k++) {
            ask("", "event", m, 1, 0, home, 0);
        }
        for (int k = 0; k < forAway; k++) {
            ask("", "event", m, 1, 1, away, 0);
        }
        whistles(m);
    }

    /** Two halves go by. */
    private void whistles(int m) {
        for (int k = 0; k < 3; k++) {
            ask("", "event", m, 0, 0, 0, 0);
        }
    }

    private void ask(String answer, String name, int... numbers) {
        Call call = new Call(name, numbers);
        if (!Calls.has(SportsHouse.class, name) || Calls.width(SportsHouse.class, name) != numbers.length) {
            throw new IllegalArgumentException(title + ": there is no call " + call.told());
        }
        asked++;
        int got = call.on(house);
        if (answer.isEmpty()) {
            check.due(title + ": " + call.told() + " is refused with " + got, got >= 0 ? 1 : 0, 1);
        } else {
            check.due(title + ": " + call.told(), got, number(answer));
        }
        answered.add(name + ":" + got);
        if (isWithoutChange(name, got)) {
            compare(call);
        } else {
            made.add(call);
            tails = null;
        }
    }

    /** The calls that made the house what it is now. */
    List<Call> made() {
        return made;
    }

    static boolean isWithoutChange(String name, int got) {
        boolean faulty = name.equals("competition") && got <= -10;
        return LOOKS.contains(name) || got < SportsHouse.NONE && !faulty;
    }

    private SportsHouse anew() {
        SportsHouse fresh = new SportsHouse();
        for (Call call : made) {
            call.on(fresh);
        }
        return fresh;
    }

    /** Both houses are made anew for each row of calls, and for each part of it that keeps within all calls. */
    private void compare(Call without) {
        if (tails == null) {
            cutTails();
        }
        for (int t = 0; t < tails.size(); t++) {
            SportsHouse other = anew();
            without.on(other);
            List<Call> tail = tails.get(t);
            for (int k = 0; k < tail.size(); k++) {
                int got = tail.get(k).on(other);
                // The document says that fault() is NONE behind ROOM.
                boolean free = without.name().equals("competition") && tail.get(k).name().equals("fault");
                if (!free && got != due.get(t).get(k)) {
                    check.due(title + ": behind " + without.told() + " " + tail.get(k).told(), got, due.get(t).get(k));
                }
            }
        }
    }

    private void cutTails() {
        tails = new ArrayList<>();
        due = new ArrayList<>();
        int room = Calls.MOST - made.size() - 1;
        boolean looks = true;
        for (List<Call> tail : new Probes(anew()).all()) {
            for (int from = 0; from < tail.size() && room > 0; from += room) {
                addTail(tail.subList(from, Math.min(tail.size(), from + room)));
                // What does something must begin at its beginning.
                if (!looks) {
                    break;
                }
            }
            looks = false;
        }
    }

    private void addTail(List<Call> tail) {
        tails.add(tail);
        SportsHouse fresh = anew();
        List<Integer> answers = new ArrayList<>();
        for (Call call : tail) {
            answers.add(call.on(fresh));
        }
        due.add(answers);
    }
}
