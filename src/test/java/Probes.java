import java.util.ArrayList;
import java.util.List;

/** Rows of calls by which two houses that should be alike are compared, as far as a house shows what it holds. */
final class Probes {
    private static final int PERSONS = 8;
    private static final int MATCHES = 10;
    private static final int ROWS = 8;

    private final SportsHouse house;
    private final int clubs;
    private final int persons;
    private final int contests;
    private final int today;
    private final List<Integer> matches = new ArrayList<>();
    private final List<List<Call>> tails = new ArrayList<>();
    private List<Call> tail;

    /** Of a house that is used for nothing else any more. */
    Probes(SportsHouse house) {
        this.house = house;
        clubs = house.count(0);
        persons = Math.min(PERSONS, house.count(1));
        contests = house.count(4);
        today = house.count(7);
        int all = house.count(5);
        for (int m = 0; m < all; m++) {
            if (m < MATCHES || m >= all - 2) {
                matches.add(m);
            }
        }
    }

    /** The first row only looks; each of the others does something else, too. */
    List<List<Call>> all() {
        look();
        text();
        things();
        draw();
        enter();
        play();
        postpone();
        titles();
        officials();
        return tails;
    }

    private void next() {
        tail = new ArrayList<>();
        tails.add(tail);
    }

    private void add(String name, int... numbers) {
        tail.add(Call.of(name, numbers));
    }

    private void each(String name, int from, int to) {
        for (int what = from; what <= to; what++) {
            add(name, what);
        }
    }

    private void look() {
        next();
        add("fault");
        each("count", 0, 7);
        add("cut");
        add("ways");
        each("moved", 0, 4);
        each("drawn", 0, clubs - 1);
        for (int m : matches) {
            lookAt(m);
        }
        for (int c = 0; c < contests; c++) {
            lookAtContest(c);
        }
        for (int club = 0; club < clubs; club++) {
            for (int g = 0; g < 4; g++) {
                add("chance", club, g);
            }
        }
        for (int p = 0; p < persons; p++) {
            for (int m : matches) {
                add("eligible", p, m, 0);
                add("eligible", p, m, 1);
            }
        }
    }

    private void lookAt(int m) {
        for (int what = 0; what < 8; what++) {
            add("match", m, what);
        }
        add("rows", m, 0);
        add("rows", m, 1);
        add("officialOf", m);
        add("witness", m);
        if (house.state(m, 0) == SportsHouse.STATE) {
            return;
        }
        for (int what = 0; what < 8; what++) {
            add("state", m, what);
            for (int i = 0; i < Math.min(ROWS, house.rows(m, what / 4)); i++) {
                add("row", m, i, what);
            }
        }
        for (int k = 0; k < 6; k++) {
            add("onField", m, 0, k);
            add("onField", m, 1, k);
        }
    }

    private void lookAtContest(int c) {
        for (int what = 0; what <= 22; what++) {
            add("rule", c, what);
        }
        for (int k = 0; k < clubs; k++) {
            add("standing", c, today, k);
            add("parted", c, today, k);
            add("standing", c, 999, k);
            add("breaks", c, k);
            add("firsts", c, k);
            for (int what = 0; what < 8; what++) {
                add("table", c, 999, k, what);
            }
        }
    }

    private void text() {
        next();
        add("wipe");
        add("wipe");
        next();
        add("competition");
        add("fault");
        for (int what = 0; what <= 22; what++) {
            add("rule", contests, what);
        }
    }

    private void things() {
        next();
        add("club", 0, 0);
        add("person");
        add("official", 0, 0);
        for (int p = 0; p < persons; p++) {
            for (int d = 0; d < 30; d += 3) {
                add("register", p, 0, d, d);
            }
        }
        add("day", today + 1);
        for (int c = 0; c < contests; c++) {
            for (int club = 0; club < clubs; club++) {
                add("deduct", c, club, 1);
            }
        }
    }

    private void draw() {
        next();
        for (int k = 0; k < 12; k++) {
            add("ball", 0, 0);
            add("ways");
        }
        each("drawn", 0, clubs - 1);
        next();
        for (int club = 0; club < clubs; club++) {
            add("pot", club, club % 3);
        }
        add("ball", 0, 0);
        next();
        add("drawing", 4, 3);
        for (int club = 0; club < clubs; club++) {
            add("pot", club, club / 4);
        }
        for (int club = 0; club < clubs; club++) {
            add("ball", 0, 0);
        }
    }

    private void enter() {
        next();
        for (int c = 0; c < contests; c++) {
            for (int club = 0; club < clubs; club++) {
                add("enter", c, club);
            }
            add("plan", c, today);
        }
    }

    private void play() {
        next();
        for (int m : matches) {
            for (int p = 0; p < persons; p++) {
                add("lineUp", p, m, 0);
                add("lineUp", p, m, 1);
            }
            add("start", m);
        }
        next();
        for (int m : matches) {
            add("walkOver", m, 1);
            for (int side = 0; side < 2; side++) {
                add("event", m, 5, side, house.onField(m, side, 0), persons - 1);
                add("event", m, 3, side, house.onField(m, side, 0), 0);
                add("event", m, 1, side, house.onField(m, side, 0), 1);
                add("event", m, 2, side, house.onField(m, side, 0), 0);
            }
            add("event", m, 0, 0, 0, 0);
            for (int what = 0; what < 8; what++) {
                add("state", m, what);
            }
            add("review", m, 0, SportsHouse.NONE, 0, 0, 0);
            add("rows", m, 0);
            add("rows", m, 1);
        }
    }

    private void postpone() {
        next();
        for (int m : matches) {
            add("postpone", m, today + 1);
            add("moved", 0);
        }
        for (int m : matches) {
            add("match", m, 4);
        }
    }

    private void titles() {
        next();
        for (int c = 0; c < contests; c++) {
            for (int club = 0; club < clubs; club++) {
                add("can", c, club);
                add("cut");
                add("witness", 0);
            }
        }
    }

    private void officials() {
        next();
        for (int m : matches) {
            add("assign", house.match(m, 4));
        }
        for (int m : matches) {
            add("officialOf", m);
        }
    }
}
