/** What several tests need before they can ask: rules that are written, leagues with persons. */
final class Setup {
    private Setup() {
    }

    static int rules(SportsHouse x, String text) {
        for (char c : text.toCharArray()) {
            x.sign(c);
        }
        return x.competition();
    }

    /** Clubs with a stadium and a country of their own, as far as there are countries. */
    static void clubs(SportsHouse x, int n) {
        for (int k = 0; k < n; k++) {
            x.club(k, k % 8);
        }
    }

    static void enterAll(SportsHouse x, int c, int n) {
        for (int k = 0; k < n; k++) {
            x.enter(c, k);
        }
    }

    /** A competition that is planned from day 0 on, each club with so many persons, numbered club by club. */
    static SportsHouse league(String text, int clubs, int each) {
        SportsHouse x = new SportsHouse();
        rules(x, text);
        clubs(x, clubs);
        for (int k = 0; k < clubs * each; k++) {
            x.register(x.person(), k / each, 0, 999);
        }
        enterAll(x, 0, clubs);
        x.plan(0, 0);
        return x;
    }

    /** Two clubs, whose persons 0 to each - 1 and each to 2 each - 1 are on the sheets, and match 0 that goes on. */
    static SportsHouse begun(String text, int each) {
        SportsHouse x = league(text, 2, each);
        for (int p = 0; p < 2 * each; p++) {
            x.lineUp(p, 0, p / each);
        }
        x.start(0);
        return x;
    }

    /** The same event some times. */
    static int events(SportsHouse x, int times, int kind, int side, int other) {
        int last = 0;
        for (int k = 0; k < times; k++) {
            last = x.event(0, kind, side, 0, other);
        }
        return last;
    }
}
