import java.util.ArrayList;
import java.util.Collections;
import java.util.List;
import java.util.Random;

/** Random runs of calls, by seeds that are written here, that the house and the model must answer alike. */
public final class RandomRunsTest {
    private static final String[] STATEMENTS = {"sport", "points", "order", "redo", "legs", "every", "rest", "field",
        "subs", "target", "walkover", "cards", "red", "seed"};
    private static final String[] SPORTS = {"football", "volleyball", "tennis", "baseball"};
    private static final String[] KEYS = {"diff", "scored", "wins", "away", "head", "fair", "lots"};
    private static final int[] EDGES = {Integer.MIN_VALUE, -1000, -5, -2, -1, 0, 1, 2, 3, 4, 5, 6, 7, 8, 9, 10, 11, 12,
        13, 22, 23, 99, 100, 199, 200, 399, 400, 401, 998, 999, 1000, Integer.MAX_VALUE};
    private static final String[] CALLS = {"sign 1", "wipe 0", "competition 0", "fault 0", "rule 2", "club 2",
        "person 0", "register 4", "official 2", "day 1", "enter 2", "plan 2", "match 2", "breaks 2", "postpone 2",
        "moved 1", "deduct 3", "eligible 3", "lineUp 3", "start 1", "walkOver 2", "event 5", "review 6", "rows 2",
        "row 3", "state 2", "onField 3", "table 4", "standing 3", "parted 3", "can 2", "witness 1", "cut 0",
        "firsts 2", "drawing 2", "pot 2", "ways 0", "chance 2", "ball 2", "drawn 1", "assign 1", "officialOf 1",
        "count 1"};

    private final Random random;
    private final Twin twin;
    private int clubs;
    private int field;
    private int sport;
    private int matches;
    private int persons;
    private int today;

    private RandomRunsTest(Check check, String name, long seed) {
        random = new Random(seed);
        twin = new Twin(check, name + " " + seed);
    }

    public static void main(String[] args) {
        Check check = new Check("RandomRunsTest");
        int more = args.length > 0 ? Integer.parseInt(args[0]) : 1;
        for (int seed = 0; seed < 400 * more; seed++) {
            new RandomRunsTest(check, "text", seed).texts();
        }
        for (int seed = 0; seed < 240 * more; seed++) {
            new RandomRunsTest(check, "league", seed).league();
        }
        for (int seed = 0; seed < 160 * more; seed++) {
            new RandomRunsTest(check, "play", seed).onePlay(seed % 4);
        }
        for (int seed = 0; seed < 360 * more; seed++) {
            new RandomRunsTest(check, "title", seed).title();
        }
        for (int seed = 0; seed < 360 * more; seed++) {
            new RandomRunsTest(check, "tight", seed).tightTitle();
        }
        for (int seed = 0; seed < 120 * more; seed++) {
            new RandomRunsTest(check, "bans", seed).bans();
        }
        for (int seed = 0; seed < 60 * more; seed++) {
            new RandomRunsTest(check, "draw", seed).draws();
        }
        for (int seed = 0; seed < 80 * more; seed++) {
            new RandomRunsTest(check, "calendar", seed).calendar();
        }
        for (int seed = 0; seed < 60 * more; seed++) {
            new RandomRunsTest(check, "junk", seed).junk();
        }
        check.end();
    }

    private int below(int n) {
        return random.nextInt(n);
    }

    private int from(int low, int high) {
        return low + random.nextInt(high - low + 1);
    }

    private boolean chance(int percent) {
        return random.nextInt(100) < percent;
    }

    private <T> T any(T[] of) {
        return of[below(of.length)];
    }

    // ---- texts

    private void texts() {
        while (twin.left() > 60) {
            StringBuilder text = new StringBuilder();
            int n = below(5);
            for (int k = 0; k < n; k++) {
                text.append(any(new String[] {"", "", " ", "\n"})).append(statement(any(STATEMENTS)));
            }
            if (chance(50) && text.length() > 0) {
                spoil(text);
            }
            if (text.length() + 30 > twin.left()) {
                return;
            }
            int c = twin.rules(text.toString());
            twin.call("fault");
            for (int what = -1; c >= 0 && what <= 23; what++) {
                twin.call("rule", c, what);
            }
            if (c == SportsHouse.ROOM) {
                twin.call("wipe");
            }
        }
    }

    private String statement(String word) {
        switch (word) {
            case "sport": return word + " " + any(SPORTS) + ";";
            case "points": return word + " " + below(11) + " " + below(6) + " " + below(4) + ";";
            case "order":
                StringBuilder keys = new StringBuilder(word).append(" ").append(any(KEYS));
                for (int k = below(4); k > 0; k--) {
                    keys.append(chance(50) ? "," : " , ").append(any(KEYS));
                }
                return keys.append(";").toString();
            case "redo": return word + (chance(50) ? ";" : " ;");
            case "seed": return word + below(1000) + ";";
            default: return word + " " + below(11) + ";";
        }
    }

    private void spoil(StringBuilder text) {
        int at = below(text.length());
        switch (below(4)) {
            case 0: text.deleteCharAt(at); break;
            case 1: text.setCharAt(at, (char) from(32, 126)); break;
            case 2: text.insert(at, any(new String[] {";", ",", " ", "#", "0", "77", "aaaaaaaaaaa", "lots", "A"})); break;
            default: text.setLength(at); break;
        }
    }

    // ---- leagues with matches that are played

    private String rulesText() {
        StringBuilder text = new StringBuilder();
        sport = chance(40) ? 0 : below(4);
        if (sport != 0 || chance(10)) {
            text.append("sport ").append(SPORTS[sport]).append(";");
        }
        field = from(1, 3);
        text.append("field").append(field).append(";target2;");
        if (chance(50)) {
            text.append("subs").append(below(3)).append(";");
        }
        if (chance(60)) {
            text.append("cards").append(from(1, 3)).append(";");
        }
        if (chance(40)) {
            text.append("red").append(from(1, 3)).append(";");
        }
        text.append("every").append(from(1, 3)).append(";");
        if (chance(50)) {
            text.append("legs").append(from(1, 2)).append(";");
        }
        if (chance(60)) {
            text.append(order()).append(chance(60) ? "redo;" : "");
        }
        return text.toString();
    }

    private String order() {
        List<String> keys = new ArrayList<>(List.of(KEYS));
        Collections.shuffle(keys, random);
        return "order " + String.join(",", keys.subList(0, from(1, 5))) + ";";
    }

    private void makeClubs(int n, int stadiums, int countries) {
        clubs = n;
        for (int k = 0; k < n; k++) {
            twin.call("club", below(stadiums), below(countries));
        }
    }

    private void enterAll(int c) {
        List<Integer> all = new ArrayList<>();
        for (int k = 0; k < clubs; k++) {
            all.add(k);
        }
        Collections.shuffle(all, random);
        for (int k : all) {
            twin.call("enter", c, k);
        }
    }

    private void league() {
        int c = twin.rules(rulesText());
        makeClubs(from(2, 4), 4, 3);
        for (int club = 0; club < clubs; club++) {
            int many = field + below(3);
            for (int k = 0; k < many; k++) {
                twin.call("person");
                if (chance(85)) {
                    twin.call("register", persons, club, 0, 999);
                } else {
                    int until = below(12);
                    twin.call("register", persons, club, 0, until);
                    twin.call("register", persons, below(clubs), until + from(0, 2), 999);
                }
                persons++;
            }
        }
        enterAll(c);
        twin.call("plan", c, below(3));
        matches = twin.model.count(5);
        for (int m = 0; m < matches && twin.left() > 60; m++) {
            playOne(c, m);
        }
        while (twin.left() > 0) {
            askLeague(c);
        }
    }

    private void playOne(int c, int m) {
        int date = twin.model.match(m, 4);
        if (chance(8)) {
            twin.call("postpone", m, today + from(0, 6));
            date = twin.model.match(m, 4);
        }
        if (date > today) {
            twin.call("day", date);
            today = twin.model.count(7);
        }
        if (chance(12)) {
            twin.call("walkOver", m, below(2));
        }
        for (int side = 0; side < 2; side++) {
            int need = field + (chance(50) ? 1 : 0);
            for (int p = 0; p < persons && need > 0 && twin.left() > 40; p++) {
                int at = below(3) == 0 ? below(persons) : p;
                int why = twin.call(chance(20) ? "eligible" : "lineUp", at, m, side);
                need -= why > 0 ? 1 : 0;
            }
        }
        twin.call("start", m);
        int n = sport == 3 ? 40 : sport == 0 ? 9 : 30;
        for (int k = 0; k < n && twin.left() > 40 && twin.model.match(m, 5) == 1; k++) {
            oneEvent(m);
            if (chance(10)) {
                oneReview(m);
            }
        }
        for (int k = 0; k < 3 && twin.left() > 0; k++) {
            askLeague(c);
        }
    }

    private int side(int m) {
        if (sport == 3 && chance(95)) {
            return twin.model.state(m, 5);
        }
        return chance(96) ? below(2) : from(-1, 2);
    }

    private int someone(int m, int side) {
        int on = twin.model.onField(m, side, below(field));
        return chance(92) ? on : from(-1, persons);
    }

    private int[] randomEvent(int m) {
        int side = side(m);
        int kind;
        int other = below(persons + 1);
        if (sport == 0) {
            kind = chance(30) ? 0 : chance(97) ? from(1, 5) : from(-1, 7);
        } else if (sport == 3) {
            kind = chance(97) ? from(1, 4) : from(-1, 6);
            other = chance(93) ? from(1, 4) : from(-1, 6);
        } else {
            kind = chance(92) ? 1 : from(0, 6);
            side = chance(70) ? m % 2 : side;
        }
        if (kind == 6 && chance(80)) {
            kind = 1;
        }
        return new int[] {kind, side, someone(m, side), other};
    }

    private void oneEvent(int m) {
        int[] e = randomEvent(m);
        twin.call("event", m, e[0], e[1], e[2], e[3]);
        if (chance(30)) {
            twin.call("state", m, from(0, 7));
        }
        if (chance(10)) {
            twin.call("onField", m, below(2), from(-1, field));
        }
    }

    private void oneReview(int m) {
        int rows = twin.model.rows(m, 0);
        int[] e = randomEvent(m);
        int i = chance(90) && rows > 0 ? below(rows) : from(-1, rows);
        if (chance(20)) {
            twin.call("review", m, i, -1, 0, 0, 0);
        } else if (chance(10)) {
            twin.call("review", m, i, twin.model.row(m, i, 0), twin.model.row(m, i, 1), twin.model.row(m, i, 2),
                twin.model.row(m, i, 3));
        } else {
            twin.call("review", m, i, e[0], e[1], e[2], e[3]);
        }
        twin.call("rows", m, below(2));
        twin.call("row", m, from(-1, rows), from(-1, 8));
        twin.call("match", m, from(5, 7));
    }

    private void askLeague(int c) {
        int m = from(-1, matches);
        switch (below(10)) {
            case 0: twin.call("table", c, day(), below(clubs), from(0, 7)); break;
            case 1: twin.call("table", c, 999, below(clubs), from(0, 7)); break;
            case 2: twin.call("standing", c, day(), below(clubs)); break;
            case 3: twin.call("parted", c, 999, below(clubs)); break;
            case 4: twin.call("eligible", below(persons), m, below(2)); break;
            case 5: twin.call("match", m, from(-1, 8)); break;
            case 6: twin.call("state", m, from(-1, 8)); break;
            case 7: twin.call("firsts", c, below(clubs)); break;
            case 8: twin.call("can", c, below(clubs)); break;
            default:
                if (m >= 0 && m < matches && twin.model.rows(m, 0) > 0 && twin.left() > 4) {
                    oneReview(m);
                } else {
                    twin.call("count", from(-1, 8));
                }
                break;
        }
    }

    private int day() {
        return chance(95) ? from(0, today + 2) : from(-1, 1000);
    }

    // ---- one match, played as long as there are calls

    private void onePlay(int kind) {
        sport = kind;
        field = from(1, 6);
        String text = sport == 0 && chance(50) ? "" : "sport " + SPORTS[sport] + ";";
        twin.rules(text + "field" + field + ";target" + (sport == 1 ? from(2, 9) : from(2, 4)) + ";subs" + below(6)
            + ";walkover" + from(1, 9) + ";");
        twin.rules("");
        makeClubs(2, 2, 2);
        int each = field + below(5);
        for (int p = 0; p < 2 * each; p++) {
            twin.call("person");
            twin.call("register", p, p % 2, 0, 999);
            persons++;
        }
        for (int c = 0; c < 2; c++) {
            twin.call("enter", c, 0);
            twin.call("enter", c, 1);
            twin.call("plan", c, 0);
        }
        matches = 2;
        for (int p = 0; p < 2 * each; p++) {
            twin.call("lineUp", p, 0, p % 2);
        }
        twin.call("eligible", below(persons), 1, below(2));
        twin.call("start", 0);
        int strong = below(2);
        int share = from(40, 75);
        while (twin.left() > 20) {
            if (twin.model.match(0, 5) == 2 && chance(60) || chance(4)) {
                oneReview(0);
            } else {
                smartEvent(strong, share);
            }
            twin.call("state", 0, from(0, 7));
            if (chance(25)) {
                twin.call("onField", 0, below(2), below(field));
                twin.call("match", 0, from(5, 7));
            }
        }
    }

    private void smartEvent(int strong, int share) {
        int side = sport == 3 ? twin.model.state(0, 5) : chance(share) ? strong : 1 - strong;
        int on = twin.model.onField(0, side, below(field));
        if (sport == 0) {
            twin.call("event", 0, chance(4) ? 0 : chance(75) ? any(new Integer[] {1, 1, 2, 5, 5}) : from(3, 4), side, on,
                below(persons));
        } else if (sport == 3) {
            twin.call("event", 0, chance(35) ? 4 : from(1, 3), side, 0, chance(80) ? 1 : from(2, 4));
        } else {
            twin.call("event", 0, sport == 1 && chance(4) ? 5 : 1, side, on, below(persons));
        }
    }

    // ---- who can be first

    private void title() {
        String[] points = {"", "", "points 2 1 0;", "points 2 1 0;", "points 4 2 0;", "points 3 2 1;", "points 1 1 1;",
            "points 3 0 0;", "points 2 2 1;", "points 9 5 1;", "points 3 1 1;"};
        String text = any(points) + "every1;" + (chance(30) ? "legs2;" : "") + (chance(50) ? order() : "")
            + (chance(50) ? "redo;" : "") + (chance(50) ? "walkover1;" : "");
        int c = twin.rules(text);
        makeClubs(from(3, 9), 4, 3);
        enterAll(c);
        twin.call("plan", c, 0);
        matches = twin.model.count(5);
        for (int k = below(4); k > 0; k--) {
            twin.call("deduct", c, below(clubs), from(1, 7));
        }
        int bias = below(clubs);
        while (twin.left() > 70 && today < 999) {
            walkDay(bias);
            if (chance(30)) {
                askTitle(c);
            }
            twin.call("day", today + 1);
            today = twin.model.count(7);
            if (twin.model.match(matches - 1, 4) < today) {
                break;
            }
        }
        for (int club = 0; club < clubs; club++) {
            twin.call("firsts", c, club);
        }
        askTitle(c);
    }

    private void walkDay(int bias) {
        for (int m = 0; m < matches && twin.left() > 60; m++) {
            if (twin.model.match(m, 4) == today && chance(85)) {
                int side = twin.model.match(m, 2) == bias && chance(80) ? 0 : below(2);
                twin.call("walkOver", m, side);
            }
        }
    }

    private void askTitle(int c) {
        int club = below(clubs);
        twin.call("can", c, club);
        twin.call("cut");
        for (int m = 0; m < matches && twin.left() > 60; m++) {
            if (twin.model.match(m, 5) == 0 || chance(5)) {
                twin.call("witness", m);
            }
        }
        if (twin.left() > 20) {
            twin.call("firsts", c, below(clubs));
            twin.call("parted", c, 999, below(clubs));
            twin.call("table", c, 999, below(clubs), 7);
        }
    }

    /** One club loses points step by step, until it can't be first any more. */
    private void tightTitle() {
        String[] points = {"points 2 1 0;", "points 4 2 0;", "points 3 2 1;", "points 6 3 0;", ""};
        int kind = below(points.length);
        int legs = kind == 4 ? 1 : from(1, 4);
        int c = twin.rules(points[kind] + "every1;legs" + legs + ";");
        makeClubs(kind == 4 ? from(3, 5) : from(4, legs > 2 ? 5 : 7), 4, 3);
        enterAll(c);
        twin.call("plan", c, 0);
        matches = twin.model.count(5);
        for (int days = from(0, 3); days > 0; days--) {
            walkDay(below(clubs));
            twin.call("day", today + 1);
            today = twin.model.count(7);
        }
        int club = below(clubs);
        for (int k = below(4); k > 0; k--) {
            twin.call("deduct", c, below(clubs), from(1, 4));
        }
        for (int n = 0; n < 46 && twin.left() > matches + 4; n++) {
            int can = twin.call("can", c, club);
            twin.call("cut");
            for (int m = 0; can == 1 && m < matches; m++) {
                if (twin.model.match(m, 5) == 0) {
                    twin.call("witness", m);
                }
            }
            twin.call("deduct", c, club, can == 1 ? from(1, 3) : 1);
        }
    }

    // ---- bans in matches that are played by other days than they are numbered

    private void bans() {
        sport = 0;
        field = 2;
        int c = twin.rules("field2;legs4;every1;cards" + from(1, 3) + ";red" + from(1, 3) + ";");
        makeClubs(2, 2, 2);
        for (int p = 0; p < 8; p++) {
            twin.call("person");
            int until = below(8);
            twin.call("register", p, p % 2, 0, chance(70) ? 999 : until);
            twin.call("register", p, below(2), until + 1, 999);
            persons++;
        }
        enterAll(c);
        twin.call("plan", c, 0);
        matches = twin.model.count(5);
        for (int k = 0; k < 6; k++) {
            twin.call("postpone", below(matches), from(1, 9));
        }
        while (twin.left() > 60 && today < 30) {
            for (int m = 0; m < matches; m++) {
                if (twin.model.match(m, 4) == today && twin.left() > 60) {
                    playForCards(m);
                }
            }
            for (int k = 0; k < 4; k++) {
                twin.call("eligible", below(persons), below(matches), below(2));
            }
            twin.call("day", today + 1);
            today = twin.model.count(7);
        }
        for (int p = 0; p < persons && twin.left() > 2; p++) {
            twin.call("eligible", p, below(matches), 0);
            twin.call("eligible", p, below(matches), 1);
        }
    }

    private void playForCards(int m) {
        if (chance(15)) {
            twin.call("walkOver", m, below(2));
            return;
        }
        for (int p = 0; p < persons; p++) {
            twin.call("lineUp", p, m, twin.model.eligible(p, m, 0) == 0 ? 0 : 1);
        }
        twin.call("start", m);
        for (int k = below(4); k > 0; k--) {
            int side = below(2);
            twin.call("event", m, from(3, 5), side, twin.model.onField(m, side, below(2)), below(persons));
        }
        for (int k = 0; k < 3; k++) {
            twin.call("event", m, 0, 0, 0, 0);
        }
    }

    // ---- draws

    private void draws() {
        makeClubs(from(6, 12), 12, from(1, 8));
        while (twin.left() > 60) {
            twin.call("drawing", from(0, 5), from(0, 4));
            for (int k = from(1, 16); k > 0; k--) {
                twin.call("pot", below(clubs + 1), chance(95) ? below(3) : from(-1, 3));
            }
            twin.call("ways");
            for (int k = 0; k < 14 && twin.left() > 6; k++) {
                twin.call("chance", below(clubs + 1), below(4));
                int got = twin.call("ball", random.nextInt(), k == 0 && chance(70) ? 1 : 0);
                twin.call("drawn", below(clubs + 1));
                if (got == SportsHouse.STATE) {
                    break;
                }
            }
        }
    }

    // ---- postponing and officials

    private void calendar() {
        makeClubs(from(3, 7), from(2, 12), from(1, 8));
        for (int k = below(9); k > 0; k--) {
            twin.call("official", below(12), below(8));
        }
        int comps = from(1, 2);
        for (int c = 0; c < comps; c++) {
            twin.rules("every" + from(1, 5) + ";rest" + from(1, 5) + ";field1;legs" + from(1, 2) + ";");
            enterAll(c);
            twin.call("plan", c, chance(20) ? from(960, 999) : from(0, 5));
        }
        matches = twin.model.count(5);
        while (twin.left() > 12 && matches > 0) {
            oneOfCalendar();
        }
    }

    private void oneOfCalendar() {
        int m = below(matches);
        int d = twin.model.match(m, 4);
        switch (below(8)) {
            case 0:
            case 1:
            case 2: postponeSome(m, d); break;
            case 3: twin.call("match", m, 4); break;
            case 4: twin.call("day", Math.min(today + from(0, 2), d)); today = twin.model.count(7); break;
            case 5: twin.call("walkOver", m, below(2)); break;
            case 6:
                if (twin.model.openOn(d) <= 7) {
                    twin.call("assign", d);
                    askOfficials(d);
                }
                break;
            default: twin.call("officialOf", m); twin.call("breaks", below(2), below(clubs)); break;
        }
    }

    private void postponeSome(int m, int d) {
        int done = twin.call("postpone", m, chance(70) ? d + from(-3, 9) : from(today - 1, 1000));
        for (int k = 0; k <= done && twin.left() > 12; k++) {
            int other = twin.call("moved", k);
            if (other >= 0) {
                twin.call("match", other, 4);
            }
        }
    }

    private void askOfficials(int d) {
        for (int m = 0; m < matches && twin.left() > 12; m++) {
            if (twin.model.match(m, 4) == d) {
                twin.call("officialOf", m);
            }
        }
    }

    // ---- any calls with any numbers

    private void junk() {
        String[] begin = {"", "field1;", "sport tennis;field1;target2;", "sport baseball;field1;",
            "sport volleyball;field1;"};
        twin.rules(any(begin));
        makeClubs(2, 3, 3);
        for (int p = 0; p < 4; p++) {
            twin.call("person");
            twin.call("register", p, p % 2, 0, 999);
        }
        twin.call("enter", 0, 0);
        twin.call("enter", 0, 1);
        twin.call("plan", 0, 0);
        twin.call("lineUp", 0, 0, 0);
        twin.call("lineUp", 1, 0, 1);
        twin.call("start", 0);
        while (twin.left() > 0) {
            String[] call = any(CALLS).split(" ");
            int[] a = new int[Integer.parseInt(call[1])];
            for (int k = 0; k < a.length; k++) {
                a[k] = chance(80) ? from(-1, 6) : EDGES[below(EDGES.length)];
            }
            if (call[0].equals("day") && chance(90)) {
                continue;
            }
            if (call[0].equals("assign") && a[0] >= 0 && a[0] <= 999 && twin.model.openOn(a[0]) > 7) {
                continue;
            }
            twin.call(call[0], a);
        }
    }
}
