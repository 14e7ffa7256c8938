import java.util.ArrayList;
import java.util.Arrays;
import java.util.Collections;
import java.util.Comparator;
import java.util.HashSet;
import java.util.List;
import java.util.Set;
import java.util.TreeMap;

/**
 * The document once more, as plainly as can be and without a thought of speed: it keeps only what was told,
 * and works out every answer from that anew. Random runs compare the program with it.
 */
final class Model {
    private static final int NONE = -1;
    private static final int UNKNOWN = -2;
    private static final int OUTSIDE = -3;
    private static final int STATE = -4;
    private static final int ROOM = -5;
    private static final List<String> SPORTS = List.of("football", "volleyball", "tennis", "baseball");
    private static final List<String> KEYS = List.of("diff", "scored", "wins", "away", "head", "fair", "lots");

    private static final class Fault extends Exception {
        private static final long serialVersionUID = 1L;
        final int kind;
        final int at;

        Fault(int kind, int at) {
            this.kind = kind;
            this.at = at;
        }
    }

    private static final class Comp {
        int number;
        String sport = "football";
        int w = 3;
        int d = 1;
        int l = 0;
        List<String> order = new ArrayList<>(List.of("diff", "scored"));
        boolean redo;
        int legs = 1;
        int every = 7;
        int rest = 1;
        int field = 2;
        int subs = 2;
        int target = 3;
        int walkover = 3;
        int cards = 3;
        int red = 1;
        int seed = 0;
        final List<Integer> clubs = new ArrayList<>();
        boolean planned;
    }

    private static final class Fixture {
        int number;
        Comp comp;
        int round;
        int home;
        int away;
        int day;
        boolean begun;
        int walkedBy = NONE;
        int official = NONE;
        final List<List<Integer>> sheets = List.of(new ArrayList<>(), new ArrayList<>());
        final List<int[]> rows = new ArrayList<>();
        final List<int[]> aside = new ArrayList<>();

        int clubOf(int side) {
            return side == 0 ? home : away;
        }

        boolean has(int club) {
            return club == home || club == away;
        }

        Run run() {
            Run run = Run.of(this);
            for (int[] row : rows) {
                if (run.law(row) != 0) {
                    throw new IllegalStateException("a row of the model is barred");
                }
                run.apply(row);
            }
            return run;
        }

        int what() {
            if (walkedBy != NONE) {
                return 3;
            }
            return !begun ? 0 : run().over ? 2 : 1;
        }

        boolean decided() {
            return what() >= 2;
        }

        int score(int side) {
            if (walkedBy != NONE) {
                return side == walkedBy ? 0 : comp.walkover;
            }
            return begun ? run().score[side] : 0;
        }
    }

    /** A match from its beginning on; each sport is a class of its own. */
    private abstract static class Run {
        final Fixture f;
        boolean over;
        int phase;
        int[] first = {0, 0};
        int[] second = {0, 0};
        int server;
        int[] changes = {0, 0};
        int[] score = {0, 0};
        final List<List<Integer>> field = new ArrayList<>();
        final List<List<Integer>> bench = new ArrayList<>();
        final List<Integer> yellows = new ArrayList<>();
        final Set<Integer> sentOff = new HashSet<>();

        Run(Fixture f) {
            this.f = f;
            for (int side = 0; side < 2; side++) {
                List<Integer> sheet = f.sheets.get(side);
                field.add(new ArrayList<>(sheet.subList(0, f.comp.field)));
                bench.add(new ArrayList<>(sheet.subList(f.comp.field, sheet.size())));
            }
        }

        static Run of(Fixture f) {
            switch (f.comp.sport) {
                case "football": return new Football(f);
                case "volleyball": return new Volleyball(f);
                case "tennis": return new Tennis(f);
                default: return new Baseball(f);
            }
        }

        abstract List<Integer> kinds();

        abstract void apply(int[] row);

        boolean needsSide(int kind) {
            return true;
        }

        boolean allowed(int[] row) {
            return true;
        }

        boolean needsPerson(int kind) {
            return kind == 5;
        }

        boolean bounded(int[] row) {
            return true;
        }

        boolean formed(int[] row) {
            return kinds().contains(row[0]) && (!needsSide(row[0]) || row[1] == 0 || row[1] == 1);
        }

        int law(int[] row) {
            if (over) {
                return 1;
            }
            if (!formed(row)) {
                return 2;
            }
            if (!allowed(row)) {
                return 3;
            }
            if (needsPerson(row[0]) && !field.get(row[1]).contains(row[2])) {
                return 4;
            }
            if (row[0] == 5 && !bench.get(row[1]).contains(row[3])) {
                return 5;
            }
            if (row[0] == 5 && changes[row[1]] == f.comp.subs) {
                return 6;
            }
            return bounded(row) ? 0 : 7;
        }

        void substitute(int[] row) {
            List<Integer> side = field.get(row[1]);
            side.set(side.indexOf(row[2]), row[3]);
            bench.get(row[1]).remove((Integer) row[3]);
            changes[row[1]]++;
        }

        int yellowsOf(int person) {
            return Collections.frequency(yellows, person);
        }
    }

    private static final class Football extends Run {
        Football(Fixture f) {
            super(f);
        }

        @Override List<Integer> kinds() {
            return List.of(0, 1, 2, 3, 4, 5);
        }

        @Override boolean needsSide(int kind) {
            return kind != 0;
        }

        @Override boolean needsPerson(int kind) {
            return kind != 0;
        }

        @Override boolean allowed(int[] row) {
            return !(phase == 1 && (row[0] == 1 || row[0] == 2));
        }

        @Override void apply(int[] row) {
            int side = row[1];
            if (row[0] == 0) {
                phase++;
                over = phase >= 3;
            } else if (row[0] == 1) {
                score[side]++;
            } else if (row[0] == 2) {
                score[side == 0 ? 1 : 0]++;
            } else if (row[0] == 5) {
                substitute(row);
            } else {
                if (row[0] == 3) {
                    yellows.add(row[2]);
                }
                if (row[0] == 4 || yellowsOf(row[2]) >= 2) {
                    sentOff.add(row[2]);
                    field.get(side).remove((Integer) row[2]);
                    if (field.get(side).size() < f.comp.field / 2.0) {
                        over = true;
                        score = side == 0 ? new int[] {0, f.comp.walkover} : new int[] {f.comp.walkover, 0};
                    }
                }
            }
        }
    }

    private static final class Volleyball extends Run {
        Volleyball(Fixture f) {
            super(f);
        }

        @Override List<Integer> kinds() {
            return List.of(1, 5);
        }

        @Override void apply(int[] row) {
            if (row[0] == 5) {
                substitute(row);
                return;
            }
            int side = row[1];
            if (server != side) {
                Collections.rotate(field.get(side), -1);
            }
            server = side;
            first[side]++;
            int aim = score[0] + score[1] == 4 ? (3 * f.comp.target + 4) / 5 : f.comp.target;
            if (first[side] >= aim && first[side] >= first[1 - side] + 2) {
                first = new int[] {0, 0};
                score[side]++;
                over = score[side] == 3;
                if (!over) {
                    phase = score[0] + score[1];
                    server = phase % 2 == 0 ? 0 : 1;
                }
            }
        }
    }

    private static final class Tennis extends Run {
        Tennis(Fixture f) {
            super(f);
        }

        @Override List<Integer> kinds() {
            return List.of(1, 6);
        }

        @Override void apply(int[] row) {
            int side = row[1];
            if (row[0] == 6) {
                over = true;
                score[1 - side] = 2;
                return;
            }
            int t = f.comp.target;
            int needed = second[0] == t && second[1] == t ? 7 : 4;
            first[side]++;
            if (first[side] < needed || first[side] < first[1 - side] + 2) {
                return;
            }
            first = new int[] {0, 0};
            second[side]++;
            if (second[side] == t + 1 || second[side] >= t && second[side] >= second[1 - side] + 2) {
                second = new int[] {0, 0};
                score[side]++;
                if (score[side] == 2) {
                    over = true;
                    return;
                }
                phase++;
            }
            server = server == 0 ? 1 : 0;
        }
    }

    private static final class Baseball extends Run {
        // Who stands on the first, second and third base, and at 0 who bats.
        private boolean[] on = new boolean[4];

        Baseball(Fixture f) {
            super(f);
            server = 1;
        }

        @Override List<Integer> kinds() {
            return List.of(1, 2, 3, 4);
        }

        @Override boolean needsPerson(int kind) {
            return false;
        }

        @Override boolean allowed(int[] row) {
            return row[1] == server;
        }

        @Override boolean bounded(int[] row) {
            return row[0] != 1 || row[3] >= 1 && row[3] <= 4;
        }

        @Override void apply(int[] row) {
            if (row[0] == 1) {
                boolean[] then = new boolean[4];
                on[0] = true;
                for (int base = 0; base < 4; base++) {
                    if (on[base] && base + row[3] > 3) {
                        score[server]++;
                    } else if (on[base]) {
                        then[base + row[3]] = true;
                    }
                }
                on = then;
                next();
                ahead();
            } else if (row[0] == 2 && first[0] < 3) {
                first[0]++;
            } else if (row[0] == 2) {
                int free = 1;
                while (free <= 3 && on[free]) {
                    free++;
                }
                if (free > 3) {
                    score[server]++;
                } else {
                    on[free] = true;
                }
                next();
                ahead();
            } else if (row[0] == 3 && first[1] < 2) {
                first[1]++;
            } else {
                out();
            }
            second[1] = (on[1] ? 1 : 0) + (on[2] ? 2 : 0) + (on[3] ? 4 : 0);
        }

        private void next() {
            first = new int[] {0, 0};
        }

        private boolean late() {
            return phase + 1 >= f.comp.target;
        }

        private void ahead() {
            if (server == 0 && late() && score[0] > score[1]) {
                over = true;
            }
        }

        private void out() {
            next();
            second[0]++;
            if (second[0] < 3) {
                return;
            }
            second = new int[] {0, 0};
            on = new boolean[4];
            if (server == 1) {
                over = late() && score[0] > score[1];
                server = over ? 1 : 0;
            } else {
                over = late() && score[0] != score[1] || phase + 1 - f.comp.target == 20;
                if (!over) {
                    phase++;
                    server = 1;
                }
            }
        }
    }

    private final StringBuilder text = new StringBuilder();
    private int faultAt = NONE;
    private final List<Comp> comps = new ArrayList<>();
    private final List<int[]> clubs = new ArrayList<>();
    private int persons;
    private final List<int[]> spans = new ArrayList<>();
    private final List<int[]> officials = new ArrayList<>();
    private int today;
    private final List<Fixture> fixtures = new ArrayList<>();
    private List<Integer> moved = new ArrayList<>();
    private final List<int[]> deducted = new ArrayList<>();
    private int rowCount;
    private int canAnswer = NONE;
    private int[] canRow = {};
    private List<Integer> canLeft = new ArrayList<>();
    private int canCut;
    private int groups;
    private int limit;
    private final List<int[]> inDraw = new ArrayList<>();
    private int random;

    // ---- text

    int sign(int c) {
        if (c != 10 && (c < 32 || c > 126)) {
            return OUTSIDE;
        }
        if (text.length() == 400) {
            return ROOM;
        }
        text.append((char) c);
        return text.length();
    }

    int wipe() {
        int was = text.length();
        text.setLength(0);
        return was;
    }

    int competition() {
        faultAt = NONE;
        if (comps.size() == 4) {
            return ROOM;
        }
        String rules = text.toString();
        text.setLength(0);
        try {
            Comp comp = new Reader(rules).read();
            comp.number = comps.size();
            comps.add(comp);
            return comp.number;
        } catch (Fault fault) {
            faultAt = fault.at;
            return -10 - fault.kind;
        }
    }

    private static final class Reader {
        private final String s;
        private int at;
        private int start;
        private char kind;
        private String token;

        Reader(String s) {
            this.s = s;
        }

        private void next(String kinds) throws Fault {
            while (at < s.length() && " \n".indexOf(s.charAt(at)) >= 0) {
                at++;
            }
            start = at;
            String rest = s.substring(at);
            token = rest.replaceFirst("(?s)^([a-z]+|[0-9]+|[;,]|).*$", "$1");
            at += token.length();
            if (rest.isEmpty()) {
                kind = 'e';
            } else if (token.isEmpty()) {
                throw new Fault(1, start);
            } else {
                char c = token.charAt(0);
                kind = Character.isDigit(c) ? 'n' : Character.isLetter(c) ? 'w' : c;
                if (kind == 'w' && token.length() > 12 || kind == 'n' && token.length() > 3) {
                    throw new Fault(1, start);
                }
            }
            if (kinds.indexOf(kind) < 0) {
                throw new Fault(2, start);
            }
        }

        private int number(int low, int high) throws Fault {
            next("n");
            int n = Integer.parseInt(token);
            if (n < low || n > high) {
                throw new Fault(4, start);
            }
            return n;
        }

        Comp read() throws Fault {
            Comp comp = new Comp();
            Set<String> told = new HashSet<>();
            for (;;) {
                next("we");
                if (kind == 'e') {
                    return comp;
                }
                String word = token;
                if (!List.of("sport", "points", "order", "redo", "legs", "every", "rest", "field", "subs", "target",
                        "walkover", "cards", "red", "seed").contains(word)) {
                    throw new Fault(3, start);
                }
                if (!told.add(word)) {
                    throw new Fault(5, start);
                }
                statement(word, comp);
            }
        }

        private void statement(String word, Comp comp) throws Fault {
            switch (word) {
                case "sport":
                    next("w");
                    if (!SPORTS.contains(token)) {
                        throw new Fault(3, start);
                    }
                    comp.sport = token;
                    break;
                case "points":
                    comp.w = number(0, 9);
                    comp.d = number(0, Math.min(9, comp.w));
                    comp.l = number(0, Math.min(9, comp.d));
                    break;
                case "order":
                    order(comp);
                    return;
                case "redo": comp.redo = true; break;
                case "legs": comp.legs = number(1, 4); break;
                case "every": comp.every = number(1, 30); break;
                case "rest": comp.rest = number(1, 9); break;
                case "field": comp.field = number(1, 6); break;
                case "subs": comp.subs = number(0, 5); break;
                case "target": comp.target = number(2, 25); break;
                case "walkover": comp.walkover = number(1, 9); break;
                case "cards": comp.cards = number(1, 9); break;
                case "red": comp.red = number(1, 9); break;
                default: comp.seed = number(0, 999); break;
            }
            next(";");
        }

        private void order(Comp comp) throws Fault {
            comp.order.clear();
            do {
                next("w");
                if (!KEYS.contains(token)) {
                    throw new Fault(3, start);
                }
                if (comp.order.contains(token)) {
                    throw new Fault(5, start);
                }
                comp.order.add(token);
                next(",;");
            } while (kind == ',');
        }
    }

    int fault() {
        return faultAt;
    }

    int rule(int c, int what) {
        if (!in(c, comps)) {
            return UNKNOWN;
        }
        if (what < 0 || what > 22) {
            return OUTSIDE;
        }
        Comp p = comps.get(c);
        if (what >= 16) {
            return what - 16 < p.order.size() ? KEYS.indexOf(p.order.get(what - 16)) : NONE;
        }
        return new int[] {SPORTS.indexOf(p.sport), p.w, p.d, p.l, p.order.size(), p.redo ? 1 : 0, p.legs, p.every,
            p.rest, p.field, p.subs, p.target, p.walkover, p.cards, p.red, p.seed}[what];
    }

    // ---- things

    private static boolean in(int i, List<?> list) {
        return i >= 0 && i < list.size();
    }

    private static boolean within(int x, int low, int high) {
        return low <= x && x <= high;
    }

    int club(int stadium, int country) {
        if (!within(stadium, 0, 11) || !within(country, 0, 7)) {
            return OUTSIDE;
        }
        if (clubs.size() == 12) {
            return ROOM;
        }
        clubs.add(new int[] {stadium, country});
        return clubs.size() - 1;
    }

    int person() {
        return persons == 200 ? ROOM : persons++;
    }

    int register(int person, int club, int from, int to) {
        if (!within(person, 0, persons - 1) || !in(club, clubs)) {
            return UNKNOWN;
        }
        if (from < 0 || to > 999 || to < from) {
            return OUTSIDE;
        }
        for (int d = from; d <= to; d++) {
            if (clubOn(person, d) != NONE) {
                return STATE;
            }
        }
        if (spans.size() == 300) {
            return ROOM;
        }
        spans.add(new int[] {person, club, from, to});
        return spans.size();
    }

    private int clubOn(int person, int d) {
        for (int[] span : spans) {
            if (span[0] == person && within(d, span[2], span[3])) {
                return span[1];
            }
        }
        return NONE;
    }

    int official(int home, int country) {
        if (!within(home, 0, 11) || !within(country, 0, 7)) {
            return OUTSIDE;
        }
        if (officials.size() == 8) {
            return ROOM;
        }
        officials.add(new int[] {home, country});
        return officials.size() - 1;
    }

    int day(int d) {
        if (!within(d, today + 1, 999)) {
            return OUTSIDE;
        }
        int was = today;
        today = d;
        return was;
    }

    // ---- fixtures

    int enter(int c, int club) {
        if (!in(c, comps) || !in(club, clubs)) {
            return UNKNOWN;
        }
        Comp p = comps.get(c);
        if (p.planned || p.clubs.contains(club)) {
            return STATE;
        }
        p.clubs.add(club);
        return p.clubs.size();
    }

    int plan(int c, int first) {
        if (!in(c, comps)) {
            return UNKNOWN;
        }
        if (!within(first, today, 999)) {
            return OUTSIDE;
        }
        Comp p = comps.get(c);
        List<Integer> places = new ArrayList<>(p.clubs);
        if (places.size() % 2 == 1) {
            places.add(NONE);
        }
        int n = places.size();
        List<Fixture> made = new ArrayList<>();
        int lastDay = first;
        for (int leg = 0; leg < p.legs; leg++) {
            for (int r = 0; r < n - 1; r++) {
                int round = leg * (n - 1) + r;
                lastDay = first + round * p.every;
                List<int[]> pairs = new ArrayList<>();
                pairs.add(r % 2 == 0 ? new int[] {r, n - 1} : new int[] {n - 1, r});
                for (int i = 1; i <= n / 2 - 1; i++) {
                    int up = Math.floorMod(r + i, n - 1);
                    int down = Math.floorMod(r - i, n - 1);
                    pairs.add(i % 2 == 1 ? new int[] {up, down} : new int[] {down, up});
                }
                for (int[] pair : pairs) {
                    Fixture f = new Fixture();
                    f.number = fixtures.size() + made.size();
                    f.comp = p;
                    f.round = round;
                    f.home = places.get(pair[leg % 2]);
                    f.away = places.get(pair[1 - leg % 2]);
                    f.day = lastDay;
                    if (f.home != NONE && f.away != NONE) {
                        made.add(f);
                    }
                }
            }
        }
        if (p.planned || p.clubs.size() < 2 || lastDay > 999) {
            return STATE;
        }
        if (fixtures.size() + made.size() > 400) {
            return ROOM;
        }
        p.planned = true;
        fixtures.addAll(made);
        return made.get(0).number;
    }

    int match(int m, int what) {
        if (!in(m, fixtures)) {
            return UNKNOWN;
        }
        if (!within(what, 0, 7)) {
            return OUTSIDE;
        }
        Fixture f = fixtures.get(m);
        return new int[] {f.comp.number, f.round, f.home, f.away, f.day, f.what(), f.score(0), f.score(1)}[what];
    }

    int breaks(int c, int club) {
        if (!in(c, comps) || !in(club, clubs)) {
            return UNKNOWN;
        }
        Comp p = comps.get(c);
        if (!p.clubs.contains(club) || !p.planned) {
            return STATE;
        }
        StringBuilder row = new StringBuilder();
        for (Fixture f : of(p)) {
            row.append(f.home == club ? "h" : f.away == club ? "a" : "");
        }
        int n = 0;
        for (int i = 1; i < row.length(); i++) {
            n += row.charAt(i) == row.charAt(i - 1) ? 1 : 0;
        }
        return n;
    }

    private List<Fixture> of(Comp p) {
        List<Fixture> list = new ArrayList<>();
        for (Fixture f : fixtures) {
            if (f.comp == p) {
                list.add(f);
            }
        }
        return list;
    }

    private boolean against(Fixture a, Fixture b) {
        if (a == b || a.what() == 3 || b.what() == 3) {
            return false;
        }
        boolean common = a.has(b.home) || a.has(b.away);
        int apart = Math.abs(a.day - b.day);
        return common && apart < Math.max(a.comp.rest, b.comp.rest)
            || apart == 0 && clubs.get(a.home)[0] == clubs.get(b.home)[0];
    }

    int postpone(int m, int d) {
        if (!in(m, fixtures)) {
            return UNKNOWN;
        }
        if (!within(d, today + 1, 999)) {
            return OUTSIDE;
        }
        Fixture f = fixtures.get(m);
        if (f.what() != 0 || f.day == d) {
            return STATE;
        }
        int[] days = new int[fixtures.size()];
        for (Fixture g : fixtures) {
            days[g.number] = g.day;
        }
        f.day = d;
        List<Integer> going = new ArrayList<>();
        boolean right = true;
        for (Fixture g : fixtures) {
            if (against(f, g)) {
                going.add(g.number);
                right &= g.what() == 0;
            }
        }
        for (int k = 0; right && k < going.size(); k++) {
            Fixture g = fixtures.get(going.get(k));
            g.day = d;
            boolean free;
            do {
                g.day++;
                free = true;
                for (Fixture h : fixtures) {
                    free &= !against(g, h);
                }
            } while (!free && g.day < 1000);
            right = g.day < 1000;
        }
        if (!right) {
            for (Fixture g : fixtures) {
                g.day = days[g.number];
            }
            return STATE;
        }
        moved = going;
        return going.size();
    }

    int moved(int k) {
        return in(k, moved) ? moved.get(k) : NONE;
    }

    int deduct(int c, int club, int points) {
        if (!in(c, comps) || !in(club, clubs)) {
            return UNKNOWN;
        }
        if (!within(points, 1, 99)) {
            return OUTSIDE;
        }
        if (!comps.get(c).clubs.contains(club)) {
            return STATE;
        }
        if (deducted.size() == 50) {
            return ROOM;
        }
        deducted.add(new int[] {c, club, points, today});
        return deducted.size();
    }

    // ---- matches

    private boolean banned(int person, Fixture x) {
        List<Fixture> ahead = new ArrayList<>();
        for (Fixture f : of(x.comp)) {
            boolean before = f.day < x.day || f.day == x.day && f.number < x.number;
            if (before && f.decided() && f.has(clubOn(person, f.day))) {
                ahead.add(f);
            }
        }
        ahead.sort(Comparator.comparingInt((Fixture f) -> f.day).thenComparingInt(f -> f.number));
        int debt = 0;
        int yellows = 0;
        for (Fixture f : ahead) {
            debt = Math.max(0, debt - 1);
            if (f.walkedBy != NONE) {
                continue;
            }
            Run run = f.run();
            if (run.sentOff.contains(person)) {
                debt += x.comp.red;
            } else {
                for (int k = run.yellowsOf(person); k > 0; k--) {
                    yellows++;
                    debt += yellows % x.comp.cards == 0 ? 1 : 0;
                }
            }
        }
        return debt > 0;
    }

    private int why(int person, Fixture f, int side) {
        if (clubOn(person, f.day) != f.clubOf(side)) {
            return 1;
        }
        if (banned(person, f)) {
            return 2;
        }
        for (Fixture g : fixtures) {
            boolean listed = g.sheets.get(0).contains(person) || g.sheets.get(1).contains(person);
            if (g == f && listed) {
                return 3;
            }
        }
        for (Fixture g : fixtures) {
            boolean listed = g.sheets.get(0).contains(person) || g.sheets.get(1).contains(person);
            if (g != f && listed && g.day == f.day && g.walkedBy == NONE) {
                return 4;
            }
        }
        return 0;
    }

    int eligible(int person, int m, int side) {
        if (!within(person, 0, persons - 1) || !in(m, fixtures)) {
            return UNKNOWN;
        }
        return within(side, 0, 1) ? why(person, fixtures.get(m), side) : OUTSIDE;
    }

    int lineUp(int person, int m, int side) {
        int why = eligible(person, m, side);
        if (why < 0) {
            return why;
        }
        Fixture f = fixtures.get(m);
        if (f.what() != 0) {
            return STATE;
        }
        List<Integer> sheet = f.sheets.get(side);
        if (sheet.size() == f.comp.field + 4) {
            return ROOM;
        }
        if (why > 0) {
            return -10 - why;
        }
        sheet.add(person);
        return sheet.size();
    }

    int start(int m) {
        if (!in(m, fixtures)) {
            return UNKNOWN;
        }
        Fixture f = fixtures.get(m);
        int least = Math.min(f.sheets.get(0).size(), f.sheets.get(1).size());
        if (f.what() != 0 || f.day != today || least < f.comp.field) {
            return STATE;
        }
        f.begun = true;
        return 1;
    }

    int walkOver(int m, int side) {
        if (!in(m, fixtures)) {
            return UNKNOWN;
        }
        if (!within(side, 0, 1)) {
            return OUTSIDE;
        }
        Fixture f = fixtures.get(m);
        if (f.what() != 0 || f.day > today) {
            return STATE;
        }
        f.walkedBy = side;
        return 1;
    }

    int event(int m, int kind, int side, int person, int other) {
        if (!in(m, fixtures)) {
            return UNKNOWN;
        }
        Fixture f = fixtures.get(m);
        if (f.what() != 1) {
            return -11;
        }
        int[] row = {kind, side, person, other};
        int law = f.run().law(row);
        if (law != 0) {
            return -10 - law;
        }
        f.rows.add(row);
        rowCount++;
        return f.rows.size();
    }

    int review(int m, int i, int kind, int side, int person, int other) {
        if (!in(m, fixtures) || !in(i, fixtures.get(m).rows)) {
            return UNKNOWN;
        }
        Fixture f = fixtures.get(m);
        int[] row = {kind, side, person, other};
        List<int[]> now = new ArrayList<>(f.rows);
        if (kind == NONE) {
            now.remove(i);
        } else {
            Run any = Run.of(f);
            if (!any.formed(row)) {
                return -12;
            }
            if (!any.bounded(row)) {
                return -17;
            }
            if (Arrays.equals(row, f.rows.get(i))) {
                return -20;
            }
            now.set(i, row);
        }
        Run run = Run.of(f);
        f.rows.clear();
        int put = 0;
        for (int[] r : now) {
            if (run.law(r) == 0) {
                run.apply(r);
                f.rows.add(r);
            } else {
                f.aside.add(r);
                put++;
            }
        }
        return put;
    }

    int rows(int m, int what) {
        if (!in(m, fixtures)) {
            return UNKNOWN;
        }
        if (!within(what, 0, 1)) {
            return OUTSIDE;
        }
        return what == 0 ? fixtures.get(m).rows.size() : fixtures.get(m).aside.size();
    }

    int row(int m, int i, int what) {
        if (!in(m, fixtures)) {
            return UNKNOWN;
        }
        List<int[]> list = what < 4 ? fixtures.get(m).rows : fixtures.get(m).aside;
        if (!within(what, 0, 7)) {
            return in(i, fixtures.get(m).rows) || in(i, fixtures.get(m).aside) ? OUTSIDE : UNKNOWN;
        }
        return in(i, list) ? list.get(i)[what % 4] : UNKNOWN;
    }

    int state(int m, int what) {
        if (!in(m, fixtures)) {
            return UNKNOWN;
        }
        if (!within(what, 0, 7)) {
            return OUTSIDE;
        }
        if (!fixtures.get(m).begun) {
            return STATE;
        }
        Run run = fixtures.get(m).run();
        return new int[] {run.phase, run.first[0], run.first[1], run.second[0], run.second[1], run.server,
            run.changes[0], run.changes[1]}[what];
    }

    int onField(int m, int side, int k) {
        if (!in(m, fixtures)) {
            return UNKNOWN;
        }
        if (!within(side, 0, 1)) {
            return OUTSIDE;
        }
        if (!fixtures.get(m).begun) {
            return NONE;
        }
        List<Integer> field = fixtures.get(m).run().field.get(side);
        return in(k, field) ? field.get(k) : NONE;
    }

    // ---- standings

    /** A result: home, away, its scores, and what the cards of each side weigh. */
    private record Result(int home, int away, int forHome, int forAway, int fairHome, int fairAway) {
        int of(int club) {
            return club == home ? forHome : club == away ? forAway : 0;
        }

        int against(int club) {
            return club == home ? forAway : club == away ? forHome : 0;
        }

        boolean has(int club) {
            return club == home || club == away;
        }

        int fair(int club) {
            return club == home ? fairHome : club == away ? fairAway : 0;
        }
    }

    private List<Result> results(Comp p, int d) {
        List<Result> list = new ArrayList<>();
        for (Fixture f : of(p)) {
            if (f.decided() && f.day <= d) {
                list.add(new Result(f.home, f.away, f.score(0), f.score(1), fair(f, 0), fair(f, 1)));
            }
        }
        return list;
    }

    private int fair(Fixture f, int side) {
        if (!f.begun) {
            return 0;
        }
        Run run = f.run();
        int sum = 0;
        for (int person : f.sheets.get(side)) {
            sum += run.yellowsOf(person) + (run.sentOff.contains(person) ? 3 : 0);
        }
        return sum;
    }

    private static int pointsFor(Comp p, int of, int against) {
        return of > against ? p.w : of == against ? p.d : p.l;
    }

    private int points(Comp p, int d, int club, List<Result> results) {
        int sum = 0;
        for (Result r : results) {
            sum += r.has(club) ? pointsFor(p, r.of(club), r.against(club)) : 0;
        }
        for (int[] x : deducted) {
            sum -= x[0] == p.number && x[1] == club && x[3] <= d ? x[2] : 0;
        }
        return sum;
    }

    /** The standings as classes of those that share a place; parts has by which key a class was parted from the next. */
    private final class Order {
        final Comp p;
        final int d;
        final List<Result> results;
        final List<List<Integer>> classes = new ArrayList<>();
        final List<Integer> parts = new ArrayList<>();

        Order(Comp p, int d, List<Result> results) {
            this.p = p;
            this.d = d;
            this.results = results;
            if (!p.clubs.isEmpty()) {
                order(p.clubs, 0);
            }
        }

        private void order(List<Integer> group, int key) {
            if (group.size() == 1 || key > p.order.size()) {
                classes.add(group);
                return;
            }
            TreeMap<List<Integer>, List<Integer>> byKey = new TreeMap<>((a, b) -> {
                for (int i = 0; i < a.size(); i++) {
                    if (!a.get(i).equals(b.get(i))) {
                        return Integer.compare(b.get(i), a.get(i));
                    }
                }
                return 0;
            });
            for (int club : group) {
                byKey.computeIfAbsent(value(club, group, key), k -> new ArrayList<>()).add(club);
            }
            int n = 0;
            for (List<Integer> part : byKey.values()) {
                order(part, byKey.size() > 1 && p.redo ? 0 : key + 1);
                n++;
                if (n < byKey.size()) {
                    parts.add(key);
                }
            }
        }

        private List<Integer> value(int club, List<Integer> group, int key) {
            int of = 0;
            int against = 0;
            int wins = 0;
            int away = 0;
            int fair = 0;
            int[] head = new int[3];
            for (Result r : results) {
                if (!r.has(club)) {
                    continue;
                }
                of += r.of(club);
                against += r.against(club);
                wins += r.of(club) > r.against(club) ? 1 : 0;
                away += r.away() == club ? r.forAway() : 0;
                fair += r.fair(club);
                if (group.contains(r.home()) && group.contains(r.away())) {
                    head[0] += pointsFor(p, r.of(club), r.against(club));
                    head[1] += r.of(club) - r.against(club);
                    head[2] += r.of(club);
                }
            }
            if (key == 0) {
                return List.of(points(p, d, club, results));
            }
            switch (p.order.get(key - 1)) {
                case "diff": return List.of(of - against);
                case "scored": return List.of(of);
                case "wins": return List.of(wins);
                case "away": return List.of(away);
                case "head": return List.of(head[0], head[1], head[2]);
                case "fair": return List.of(-fair);
                default: return List.of(lot(group, club));
            }
        }

        private int lot(List<Integer> group, int club) {
            int bits = 0;
            for (int g : group) {
                bits += 1 << g;
            }
            int x = (p.seed * 1000003 + bits) * 31 + club;
            for (int t = 1; t <= 3; t++) {
                x = x ^ (x >>> 16);
                if (t < 3) {
                    x = x * 73244475;
                }
            }
            return x & 0x7fffffff;
        }

        int place(int club) {
            int before = 0;
            for (List<Integer> shared : classes) {
                if (shared.contains(club)) {
                    return before + 1;
                }
                before += shared.size();
            }
            throw new IllegalStateException();
        }
    }

    int table(int c, int d, int club, int what) {
        if (!in(c, comps) || !in(club, clubs)) {
            return UNKNOWN;
        }
        if (!within(d, 0, 999) || !within(what, 0, 7)) {
            return OUTSIDE;
        }
        Comp p = comps.get(c);
        if (!p.clubs.contains(club)) {
            return STATE;
        }
        List<Result> results = results(p, d);
        int[] line = new int[8];
        for (Result r : results) {
            if (r.has(club)) {
                line[0]++;
                line[r.of(club) > r.against(club) ? 1 : r.of(club) == r.against(club) ? 2 : 3]++;
                line[4] += r.of(club);
                line[5] += r.against(club);
            }
        }
        line[6] = points(p, d, club, results);
        line[7] = new Order(p, d, results).place(club);
        return line[what];
    }

    int standing(int c, int d, int k) {
        if (!in(c, comps)) {
            return UNKNOWN;
        }
        if (!within(d, 0, 999)) {
            return OUTSIDE;
        }
        List<Integer> all = new ArrayList<>();
        for (List<Integer> shared : new Order(comps.get(c), d, results(comps.get(c), d)).classes) {
            all.addAll(shared);
        }
        return in(k, all) ? all.get(k) : NONE;
    }

    int parted(int c, int d, int k) {
        if (!in(c, comps)) {
            return UNKNOWN;
        }
        if (!within(d, 0, 999)) {
            return OUTSIDE;
        }
        Order order = new Order(comps.get(c), d, results(comps.get(c), d));
        int end = 0;
        for (int i = 0; i < order.parts.size(); i++) {
            end += order.classes.get(i).size();
            if (end - 1 == k) {
                return order.parts.get(i);
            }
        }
        return NONE;
    }

    int can(int c, int club) {
        if (!in(c, comps) || !in(club, clubs)) {
            return UNKNOWN;
        }
        Comp p = comps.get(c);
        if (!p.clubs.contains(club) || !p.planned) {
            return STATE;
        }
        canCut = 0;
        canRow = new int[] {};
        canLeft = new ArrayList<>();
        int others = 0;
        for (Fixture f : of(p)) {
            if (!f.decided()) {
                canLeft.add(f.number);
                others += f.has(club) ? 0 : 1;
            }
        }
        boolean even = p.w + p.l == 2 * p.d;
        if (others > (even ? 40 : 8)) {
            canAnswer = 2;
            return canAnswer;
        }
        int[] row = new int[canLeft.size()];
        canAnswer = fill(p, club, row, 0, even) ? 1 : 0;
        if (canAnswer == 1) {
            canRow = row;
        } else if (even) {
            canCut = leastCut(p, club, row, 0);
        }
        return canAnswer;
    }

    /** Fills a row of results from k on with the first that does; the cut tells when there is none. */
    private boolean fill(Comp p, int club, int[] row, int k, boolean even) {
        if (even && leastCut(p, club, row, k) != 0) {
            return false;
        }
        if (k == row.length) {
            int[] points = pointsBy(p, row, k);
            for (int other : p.clubs) {
                if (points[other] > points[club]) {
                    return false;
                }
            }
            return true;
        }
        Fixture f = fixtures.get(canLeft.get(k));
        for (int result = 0; result < 3; result++) {
            boolean own = f.home == club && result != 0 || f.away == club && result != 2;
            row[k] = result;
            if (!own && fill(p, club, row, k + 1, even)) {
                return true;
            }
        }
        return false;
    }

    private int[] pointsBy(Comp p, int[] row, int k) {
        int[] points = new int[12];
        for (int club : p.clubs) {
            points[club] = points(p, 999, club, results(p, 999));
        }
        for (int i = 0; i < k; i++) {
            Fixture f = fixtures.get(canLeft.get(i));
            points[f.home] += new int[] {p.w, p.d, p.l}[row[i]];
            points[f.away] += new int[] {p.l, p.d, p.w}[row[i]];
        }
        return points;
    }

    /** The cut when the first k of what is left have their results already. */
    private int leastCut(Comp p, int club, int[] row, int k) {
        int[] points = pointsBy(p, row, k);
        int best = points[club];
        int[] spare = new int[12];
        int[][] between = new int[12][12];
        for (int i = k; i < row.length; i++) {
            Fixture f = fixtures.get(canLeft.get(i));
            best += f.has(club) ? p.w : 0;
            spare[f.home] -= p.l;
            spare[f.away] -= p.l;
            between[f.home][f.away]++;
        }
        int[] cap = new int[12];
        int others = 0;
        for (int other : p.clubs) {
            others |= other == club ? 0 : 1 << other;
            int left = best - points[other] + spare[other];
            cap[other] = left < 0 ? -1 : p.w == p.d ? 1000 : left / (p.w - p.d);
        }
        for (int set = 1; set < 4096; set++) {
            if ((set & others) != set) {
                continue;
            }
            int caps = 0;
            int matches = 0;
            for (int a = 0; a < 12; a++) {
                caps += (set >> a & 1) == 1 ? cap[a] : 0;
                for (int b = 0; b < 12; b++) {
                    matches += (set >> a & 1) == 1 && (set >> b & 1) == 1 ? between[a][b] : 0;
                }
            }
            if (caps < 2 * matches) {
                return set;
            }
        }
        return 0;
    }

    int witness(int m) {
        if (!in(m, fixtures)) {
            return UNKNOWN;
        }
        return canAnswer == 1 && canLeft.contains(m) ? canRow[canLeft.indexOf(m)] : NONE;
    }

    int cut() {
        return canCut;
    }

    int firsts(int c, int club) {
        if (!in(c, comps) || !in(club, clubs)) {
            return UNKNOWN;
        }
        Comp p = comps.get(c);
        if (!p.clubs.contains(club) || !p.planned) {
            return STATE;
        }
        List<Fixture> left = new ArrayList<>();
        for (Fixture f : of(p)) {
            if (!f.decided()) {
                left.add(f);
            }
        }
        return left.size() > 3 ? NONE : firsts(p, club, left, results(p, 999));
    }

    private int firsts(Comp p, int club, List<Fixture> left, List<Result> results) {
        if (left.isEmpty()) {
            return new Order(p, 999, results).place(club) == 1 ? 1 : 0;
        }
        int n = 0;
        Fixture f = left.get(0);
        for (int result = 0; result < 3; result++) {
            List<Result> then = new ArrayList<>(results);
            then.add(new Result(f.home, f.away, result == 0 ? 1 : 0, result == 2 ? 1 : 0, 0, 0));
            n += firsts(p, club, left.subList(1, left.size()), then);
        }
        return n;
    }

    // ---- draws

    int drawing(int groups, int limit) {
        if (!within(groups, 1, 4) || !within(limit, 1, 3)) {
            return OUTSIDE;
        }
        this.groups = groups;
        this.limit = limit;
        inDraw.clear();
        return 1;
    }

    private int[] drawEntry(int club) {
        for (int[] e : inDraw) {
            if (e[0] == club) {
                return e;
            }
        }
        return null;
    }

    int pot(int club, int p) {
        if (!in(club, clubs)) {
            return UNKNOWN;
        }
        if (!within(p, 0, 2)) {
            return OUTSIDE;
        }
        int size = 0;
        boolean begun = false;
        for (int[] e : inDraw) {
            size += e[1] == p ? 1 : 0;
            begun |= e[2] != NONE;
        }
        if (groups == 0 || drawEntry(club) != null || begun) {
            return STATE;
        }
        if (size == groups) {
            return ROOM;
        }
        inDraw.add(new int[] {club, p, NONE});
        return size + 1;
    }

    /** The ways to go on in which the club, if one is told, comes into the group. */
    private int waysWith(int club, int group) {
        int[] at = new int[inDraw.size()];
        for (int i = 0; i < at.length; i++) {
            at[i] = inDraw.get(i)[2];
        }
        return waysFrom(at, 0, club, group);
    }

    private int waysFrom(int[] at, int i, int club, int group) {
        if (i == at.length) {
            for (int k = 0; k < at.length; k++) {
                if (inDraw.get(k)[0] == club && at[k] != group) {
                    return 0;
                }
            }
            return 1;
        }
        if (inDraw.get(i)[2] != NONE) {
            return waysFrom(at, i + 1, club, group);
        }
        int n = 0;
        for (int g = 0; g < groups; g++) {
            boolean free = true;
            int same = 0;
            for (int k = 0; k < at.length; k++) {
                if (k != i && at[k] == g && (k < i || inDraw.get(k)[2] != NONE)) {
                    free &= inDraw.get(k)[1] != inDraw.get(i)[1];
                    same += clubs.get(inDraw.get(k)[0])[1] == clubs.get(inDraw.get(i)[0])[1] ? 1 : 0;
                }
            }
            if (free && same < limit) {
                at[i] = g;
                n += waysFrom(at, i + 1, club, group);
                at[i] = NONE;
            }
        }
        return n;
    }

    int ways() {
        return groups == 0 ? STATE : waysWith(NONE, NONE);
    }

    int chance(int club, int group) {
        if (!in(club, clubs) || groups == 0 || drawEntry(club) == null) {
            return UNKNOWN;
        }
        return within(group, 0, groups - 1) ? waysWith(club, group) : OUTSIDE;
    }

    private int takenBelow(int m) {
        long power = 2147483648L;
        for (;;) {
            random = (int) (random * 1664525L + 1013904223L);
            int v = random >>> 1;
            if (v < power - power % m) {
                return v % m;
            }
        }
    }

    int ball(int seed, boolean first) {
        int least = 3;
        List<Integer> waiting = new ArrayList<>();
        for (int[] e : inDraw) {
            if (e[2] == NONE && e[1] < least) {
                least = e[1];
            }
        }
        for (int[] e : inDraw) {
            if (e[2] == NONE && e[1] == least) {
                waiting.add(e[0]);
            }
        }
        if (groups == 0 || waiting.isEmpty() || ways() == 0) {
            return STATE;
        }
        if (first) {
            random = seed;
        }
        Collections.sort(waiting);
        int club = waiting.get(takenBelow(waiting.size()));
        int told = takenBelow(ways());
        int sum = 0;
        int group = NONE;
        for (int g = 0; group == NONE; g++) {
            sum += waysWith(club, g);
            if (sum > told) {
                group = g;
            }
        }
        drawEntry(club)[2] = group;
        return 8 * club + group;
    }

    int drawn(int club) {
        if (!in(club, clubs)) {
            return UNKNOWN;
        }
        return groups == 0 || drawEntry(club) == null ? NONE : drawEntry(club)[2];
    }

    // ---- officials

    private int[] bestRow;
    private int bestCount;
    private int bestSum;

    int assign(int d) {
        if (!within(d, 0, 999)) {
            return OUTSIDE;
        }
        List<Fixture> list = new ArrayList<>();
        for (Fixture f : fixtures) {
            if (f.day == d && !f.decided()) {
                list.add(f);
            }
        }
        bestCount = -1;
        tryAll(list, new int[list.size()], 0);
        for (int i = 0; i < list.size(); i++) {
            list.get(i).official = bestRow[i] == 8 ? NONE : bestRow[i];
        }
        return bestCount;
    }

    /** Goes through all rows in their order, so a later one must be truly better to be kept. */
    private void tryAll(List<Fixture> list, int[] row, int i) {
        if (i < list.size()) {
            for (int o = 0; o <= 8; o++) {
                if (o == 8 || o < officials.size() && mayServe(list, row, i, o)) {
                    row[i] = o;
                    tryAll(list, row, i + 1);
                }
            }
            return;
        }
        int n = 0;
        int sum = 0;
        for (int k = 0; k < row.length; k++) {
            if (row[k] != 8) {
                n++;
                sum += Math.abs(officials.get(row[k])[0] - clubs.get(list.get(k).home)[0]);
            }
        }
        if (n > bestCount || n == bestCount && sum < bestSum) {
            bestCount = n;
            bestSum = sum;
            bestRow = row.clone();
        }
    }

    private boolean mayServe(List<Fixture> list, int[] row, int i, int o) {
        for (int k = 0; k < i; k++) {
            if (row[k] == o) {
                return false;
            }
        }
        int country = officials.get(o)[1];
        return clubs.get(list.get(i).home)[1] != country && clubs.get(list.get(i).away)[1] != country;
    }

    /** How many matches a day's assign would look at: the model tries all ways, so runs keep it small. */
    int openOn(int d) {
        int n = 0;
        for (Fixture f : fixtures) {
            n += f.day == d && !f.decided() ? 1 : 0;
        }
        return n;
    }

    int officialOf(int m) {
        return in(m, fixtures) ? fixtures.get(m).official : UNKNOWN;
    }

    int count(int what) {
        if (!within(what, 0, 7)) {
            return OUTSIDE;
        }
        return new int[] {clubs.size(), persons, spans.size(), officials.size(), comps.size(), fixtures.size(),
            rowCount, today}[what];
    }
}
