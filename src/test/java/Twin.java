import java.util.ArrayList;
import java.util.List;

/** A house and the model of it, asked together: every answer of the house must be the model's. */
final class Twin {
    private static final int TOLD_MOST = 3;
    private static int told;

    final SportsHouse house = new SportsHouse();
    final Model model = new Model();
    private final Check check;
    private final String run;
    private final List<String> calls = new ArrayList<>();
    private boolean wrong;

    Twin(Check check, String run) {
        this.check = check;
        this.run = run;
    }

    /** How many calls may still be made on this object. */
    int left() {
        return Calls.MOST - calls.size();
    }

    int call(String name, int... a) {
        calls.add(Calls.tell(name, a));
        int got = Calls.ask(house, name, a);
        int want = Calls.ask(model, name, a);
        check.due(run + " call " + calls.size() + " " + Calls.tell(name, a), got, want);
        if (got != want && !wrong) {
            wrong = true;
            tellRun();
        }
        return got;
    }

    private void tellRun() {
        told++;
        if (told <= TOLD_MOST) {
            System.out.println(run + ": " + String.join(" ", calls));
        }
    }

    /** Writes rules and makes a competition of them. */
    int rules(String text) {
        for (char c : text.toCharArray()) {
            call("sign", c);
        }
        return call("competition");
    }
}
