import java.util.ArrayList;
import java.util.List;
import java.util.TreeSet;

/**
 * In several states, empty ones and full ones, every call with every choice of numbers around its bounds:
 * the class must answer what the model does, so that also which refusal comes first is compared.
 */
public final class SweepTest {
    private static final int LOW = Integer.MIN_VALUE;
    private static final int HIGH = Integer.MAX_VALUE;
    private static final int MATCHES_OF_A_DAY = 7;

    /** Each call with the kinds of its numbers. */
    private static final String[] FACE = {"sign byte", "wipe", "competition", "fault", "rule contest what", "club place land",
        "person", "register person club day day", "official place land", "day day", "enter contest club", "plan contest day",
        "match match what", "breaks contest club", "postpone match day", "moved k", "deduct contest club points",
        "eligible person match side", "lineUp person match side", "start match", "walkOver match side",
        "event match kind side person other", "review match row kind side person other", "rows match what", "row match row what",
        "state match what", "onField match side k", "table contest day club what", "standing contest day k",
        "parted contest day k", "can contest club", "witness match", "cut", "firsts contest club", "drawing groups limit",
        "pot club pot", "ways", "chance club group", "ball seed flag", "drawn club", "assign day", "officialOf match",
        "count what"};

    private final Check check;
    private final String name;
    private final List<Call> made;
    private SportsHouse house;
    private Model model;
    private int left;

    private SweepTest(Check check, String name, String script) {
        this.check = check;
        this.name = name;
        Script run = new Script(check, name);
        run.play(script);
        made = run.made();
    }

    public static void main(String[] args) {
        Check check = new Check("SweepTest");
        sweep(check, "a new object", "");
        sweep(check, "football", """
            league 4 3 field2;every2;subs1; | official 3 5 | official 0 1 | day 2 | walkOver 0 0 = 1 | lineUp 3 1 0
            postpone 1 3 = 0 | lineUp 9 2 0 | lineUp 10 2 0 | lineUp 11 2 0 | lineUp 3 2 1 | lineUp 4 2 1 | lineUp 5 2 1
            start 2 = 1 | event 2 3 0 9 0 | event 2 1 1 3 0 | lineUp 6 3 0 | lineUp 7 3 0 | lineUp 0 3 1 | lineUp 1 3 1
            start 3 = 1 | event 3 4 0 6 0 | whistles 3 | assign 2 = 1 | deduct 0 2 4 | can 0 1 = 1 | drawing 2 1 = 1 | pot 0 0
            pot 1 0 | pot 3 2 | ball 8 true | sign 108 | sign 101
            """);
        sweep(check, "volleyball", "begun 3 sport volleyball;field2;target2;subs1;legs2; | event 0 1 1 0 0 | event 0 5 0 1 2");
        sweep(check, "tennis", "begun 2 sport tennis;field1;target2;legs2;points 2 1 0; | 9* event 0 1 1 0 0 | can 0 0 = 1");
        sweep(check, "baseball", "begun 2 sport baseball;field1;target2;legs2; | event 0 1 1 0 3 | 2* event 0 2 1 0 0");
        sweep(check, "ended", "begun 1 field1; | event 0 1 0 0 0 | whistles 0 | day 999");
        sweep(check, "with rows aside", "begun 2 field1; | event 0 5 0 0 1 | 2* event 0 1 0 1 5 | review 0 0 3 0 0 0 = 2");
        sweep(check, "full of clubs, officials and competitions", """
            12* club @ 0 | 8* official 0 1 | rules legs4; = 0 | rules legs2; = 1 | rules legs4; = 2 | rules = 3 | 12* enter 0 @
            12* enter 1 @ | 2* enter 2 @ | 2* enter 3 @ | plan 0 0 = 0 | plan 1 400 = 264 | plan 2 800 = 396
            """);
        sweep(check, "full of deductions", "2* competition | clubs 2 | enter 0 0 | enter 1 1 | 50* deduct 0 0 9");
        sweep(check, "full of spans", "clubs 2 | 2* person | 300* register 0 0 @ @");
        sweep(check, "full of persons", "club 0 0 | 200* person");
        sweep(check, "full of text", "397* sign 32 | sign 59 | 2* sign 32");
        sweep(check, "a draw that is full", """
            12* club 0 3 | drawing 4 3 = 1 | 4* pot @ 0 | pot 4 1 | pot 5 1 | pot 6 1 | pot 7 1
            """);
        sweep(check, "a draw without ways", "4* club 0 3 | drawing 1 1 = 1 | pot 0 0 | pot 1 1");
        sweep(check, "a draw that is over", "clubs 3 | drawing 2 3 = 1 | pot 0 0 | pot 1 2 | ball 3 true | ball 0 false");
        check.end();
    }

    private static void sweep(Check check, String name, String script) {
        SweepTest test = new SweepTest(check, name, script);
        test.anew();
        for (String call : FACE) {
            String[] words = call.split(" ");
            test.choose(words, new int[words.length - 1], 0);
        }
    }

    private void anew() {
        house = new SportsHouse();
        model = new Model();
        for (Call call : made) {
            call.on(house);
            call.on(model);
        }
        left = Calls.MOST - made.size();
    }

    /** Goes through all choices of the numbers from the k-th on. */
    private void choose(String[] words, int[] numbers, int k) {
        if (k == numbers.length) {
            ask(words[0], numbers.clone());
            return;
        }
        for (int number : values(words[k + 1])) {
            numbers[k] = number;
            choose(words, numbers, k + 1);
        }
    }

    private void ask(String call, int[] numbers) {
        // The model tries all ways, which are too many with more matches.
        if (call.equals("assign") && numbers[0] >= 0 && numbers[0] <= 999 && model.openOn(numbers[0]) > MATCHES_OF_A_DAY) {
            return;
        }
        if (left == 0) {
            anew();
        }
        left--;
        int got = Calls.ask(house, call, numbers);
        int want = Calls.ask(model, call, numbers);
        check.due(name + ": " + Calls.tell(call, numbers), got, want);
        if (!Script.isWithoutChange(call, want)) {
            anew();
        }
    }

    /** Numbers of a kind around the bounds that it has in this state. */
    private TreeSet<Integer> values(String kind) {
        List<Integer> found = new ArrayList<>(List.of(LOW, HIGH, -1, 0));
        switch (kind) {
            case "byte": found.addAll(List.of(9, 10, 11, 31, 32, 126, 127, 266)); break;
            case "contest": around(found, model.count(4), 1); break;
            case "club": around(found, model.count(0), 1, 2); break;
            case "person": around(found, model.count(1), 1, 3, 9); break;
            case "match": around(found, model.count(5), 1, 2, 3); break;
            case "day": around(found, 1000, model.count(7), model.count(7) + 1, 3); break;
            case "place": around(found, 12); break;
            case "land": around(found, 8); break;
            case "points": around(found, 100, 1); break;
            case "side": around(found, 2); break;
            case "what": around(found, 8, 1, 2, 4, 22, 23); break;
            case "k": around(found, 12, 1); break;
            case "kind": found.addAll(List.of(1, 3, 4, 5, 6, 7)); break;
            case "row": found.addAll(List.of(1, 2, 4)); break;
            case "other": found.addAll(List.of(1, 2, 4, 5)); break;
            case "groups": around(found, 5, 1); break;
            case "limit": around(found, 4, 1); break;
            case "pot": around(found, 3, 1); break;
            case "group": around(found, 4, 1, 2); break;
            case "seed": found.add(1); break;
            default: found = List.of(0, 1); break;
        }
        return new TreeSet<>(found);
    }

    /** The last number below a bound, the bound itself, and others. */
    private static void around(List<Integer> found, int bound, int... others) {
        found.add(bound - 1);
        found.add(bound);
        for (int other : others) {
            found.add(other);
        }
    }
}
