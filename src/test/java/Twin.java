import java.util.ArrayList;
import java.util.List;
import java.util.StringJoiner;

/** A house and the model of it, asked together: every answer of the house must be the model's. */
final class Twin {
    static final int CALLS_MOST = 512;
    private static final int TOLD_MOST = 3;
    private static int told;

    final SportsHouse house = new SportsHouse();
    final Model model = new Model();
    private final Check check;
    private final String run;
    private final List<String> calls = new ArrayList<>();
    private boolean wrong;

    Twin(Check check, String run) {
        this.check = check;
        this.run = run;
    }

    /** How many calls may still be made on this object. */
    int left() {
        return CALLS_MOST - calls.size();
    }

    int call(String name, int... a) {
        StringJoiner text = new StringJoiner(", ", name + "(", ")");
        for (int x : a) {
            text.add(Integer.toString(x));
        }
        calls.add(text.toString());
        int got = askHouse(name, a);
        int want = askModel(name, a);
        check.due(run + " call " + calls.size() + " " + text, got, want);
        if (got != want && !wrong) {
            wrong = true;
            tellRun();
        }
        return got;
    }

    private void tellRun() {
        told++;
        if (told <= TOLD_MOST) {
            System.out.println(run + ": " + String.join(" ", calls));
        }
    }

    /** Writes rules and makes a competition of them. */
    int rules(String text) {
        for (char c : text.toCharArray()) {
            call("sign", c);
        }
        return call("competition");
    }

    private int askHouse(String name, int[] a) {
        SportsHouse h = house;
        switch (name) {
            case "sign": return h.sign(a[0]);
            case "wipe": return h.wipe();
            case "competition": return h.competition();
            case "fault": return h.fault();
            case "rule": return h.rule(a[0], a[1]);
            case "club": return h.club(a[0], a[1]);
            case "person": return h.person();
            case "register": return h.register(a[0], a[1], a[2], a[3]);
            case "official": return h.official(a[0], a[1]);
            case "day": return h.day(a[0]);
            case "enter": return h.enter(a[0], a[1]);
            case "plan": return h.plan(a[0], a[1]);
            case "match": return h.match(a[0], a[1]);
            case "breaks": return h.breaks(a[0], a[1]);
            case "postpone": return h.postpone(a[0], a[1]);
            case "moved": return h.moved(a[0]);
            case "deduct": return h.deduct(a[0], a[1], a[2]);
            case "eligible": return h.eligible(a[0], a[1], a[2]);
            case "lineUp": return h.lineUp(a[0], a[1], a[2]);
            case "start": return h.start(a[0]);
            case "walkOver": return h.walkOver(a[0], a[1]);
            case "event": return h.event(a[0], a[1], a[2], a[3], a[4]);
            case "review": return h.review(a[0], a[1], a[2], a[3], a[4], a[5]);
            case "rows": return h.rows(a[0], a[1]);
            case "row": return h.row(a[0], a[1], a[2]);
            case "state": return h.state(a[0], a[1]);
            case "onField": return h.onField(a[0], a[1], a[2]);
            case "table": return h.table(a[0], a[1], a[2], a[3]);
            case "standing": return h.standing(a[0], a[1], a[2]);
            case "parted": return h.parted(a[0], a[1], a[2]);
            case "can": return h.can(a[0], a[1]);
            case "witness": return h.witness(a[0]);
            case "cut": return h.cut();
            case "firsts": return h.firsts(a[0], a[1]);
            case "drawing": return h.drawing(a[0], a[1]);
            case "pot": return h.pot(a[0], a[1]);
            case "ways": return h.ways();
            case "chance": return h.chance(a[0], a[1]);
            case "ball": return h.ball(a[0], a[1] != 0);
            case "drawn": return h.drawn(a[0]);
            case "assign": return h.assign(a[0]);
            case "officialOf": return h.officialOf(a[0]);
            case "count": return h.count(a[0]);
            default: throw new IllegalArgumentException(name);
        }
    }

    private int askModel(String name, int[] a) {
        Model h = model;
        switch (name) {
            case "sign": return h.sign(a[0]);
            case "wipe": return h.wipe();
            case "competition": return h.competition();
            case "fault": return h.fault();
            case "rule": return h.rule(a[0], a[1]);
            case "club": return h.club(a[0], a[1]);
            case "person": return h.person();
            case "register": return h.register(a[0], a[1], a[2], a[3]);
            case "official": return h.official(a[0], a[1]);
            case "day": return h.day(a[0]);
            case "enter": return h.enter(a[0], a[1]);
            case "plan": return h.plan(a[0], a[1]);
            case "match": return h.match(a[0], a[1]);
            case "breaks": return h.breaks(a[0], a[1]);
            case "postpone": return h.postpone(a[0], a[1]);
            case "moved": return h.moved(a[0]);
            case "deduct": return h.deduct(a[0], a[1], a[2]);
            case "eligible": return h.eligible(a[0], a[1], a[2]);
            case "lineUp": return h.lineUp(a[0], a[1], a[2]);
            case "start": return h.start(a[0]);
            case "walkOver": return h.walkOver(a[0], a[1]);
            case "event": return h.event(a[0], a[1], a[2], a[3], a[4]);
            case "review": return h.review(a[0], a[1], a[2], a[3], a[4], a[5]);
            case "rows": return h.rows(a[0], a[1]);
            case "row": return h.row(a[0], a[1], a[2]);
            case "state": return h.state(a[0], a[1]);
            case "onField": return h.onField(a[0], a[1], a[2]);
            case "table": return h.table(a[0], a[1], a[2], a[3]);
            case "standing": return h.standing(a[0], a[1], a[2]);
            case "parted": return h.parted(a[0], a[1], a[2]);
            case "can": return h.can(a[0], a[1]);
            case "witness": return h.witness(a[0]);
            case "cut": return h.cut();
            case "firsts": return h.firsts(a[0], a[1]);
            case "drawing": return h.drawing(a[0], a[1]);
            case "pot": return h.pot(a[0], a[1]);
            case "ways": return h.ways();
            case "chance": return h.chance(a[0], a[1]);
            case "ball": return h.ball(a[0], a[1] != 0);
            case "drawn": return h.drawn(a[0]);
            case "assign": return h.assign(a[0]);
            case "officialOf": return h.officialOf(a[0]);
            case "count": return h.count(a[0]);
            default: throw new IllegalArgumentException(name);
        }
    }
}
