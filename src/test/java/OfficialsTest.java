/** Promises 42 and 43: officials that are matched with the matches of a day. */
public final class OfficialsTest {
    private static final Check CHECK = new Check("OfficialsTest");
    private static final int NONE = SportsHouse.NONE;

    public static void main(String[] args) {
        refusals();
        countries();
        distances();
        mostMatchesFirst();
        firstRow();
        latestAssign();
        manyMatches();
        CHECK.end();
    }

    /** Matches of one day, one in each of the stadiums told, at home country 0, away country 1. */
    private static SportsHouse day(int... stadiums) {
        SportsHouse x = new SportsHouse();
        for (int k = 0; k < stadiums.length; k++) {
            x.competition();
            int home = x.club(stadiums[k], 0);
            int away = x.club(11, 1);
            x.enter(k, home);
            x.enter(k, away);
            x.plan(k, 3);
        }
        return x;
    }

    private static void officials(String name, SportsHouse x, int served, int... want) {
        CHECK.due(name + ": assign(3)", x.assign(3), served);
        for (int m = 0; m < want.length; m++) {
            CHECK.due(name + ": officialOf(" + m + ")", x.officialOf(m), want[m]);
        }
    }

    private static void refusals() {
        SportsHouse x = day(0);
        CHECK.due("assign(-1)", x.assign(-1), SportsHouse.OUTSIDE);
        CHECK.due("assign(1000)", x.assign(1000), SportsHouse.OUTSIDE);
        CHECK.due("officialOf(1)", x.officialOf(1), SportsHouse.UNKNOWN);
        CHECK.due("officialOf(-1)", x.officialOf(-1), SportsHouse.UNKNOWN);
        CHECK.due("before any assign", x.officialOf(0), NONE);
        officials("without officials", x, 0, NONE);
        x.official(0, 2);
        CHECK.due("a day without matches", x.assign(0), 0);
        CHECK.due("the last day", x.assign(999), 0);
        CHECK.due("was not for it", x.officialOf(0), NONE);
        officials("one", x, 1, 0);
    }

    private static void countries() {
        SportsHouse x = day(5);
        x.official(5, 0);
        x.official(5, 1);
        officials("those of the clubs' countries may not", x, 0, NONE);
        x.official(11, 2);
        officials("another may", x, 1, 2);
    }

    private static void distances() {
        SportsHouse x = day(2, 9);
        x.official(8, 2);
        x.official(3, 2);
        officials("the least sum", x, 2, 1, 0);
        x.official(9, 2);
        officials("an even lesser one", x, 2, 1, 2);
        SportsHouse y = day(5, 7);
        y.official(6, 2);
        y.official(0, 2);
        // 1 + 7 against 5 + 1.
        officials("the sum counts, not the nearest", y, 2, 1, 0);
    }

    private static void mostMatchesFirst() {
        SportsHouse x = new SportsHouse();
        x.competition();
        x.competition();
        x.club(0, 0);
        x.club(1, 1);
        x.club(11, 2);
        x.club(11, 3);
        x.enter(0, 0);
        x.enter(0, 1);
        x.enter(1, 2);
        x.enter(1, 3);
        x.plan(0, 3);
        x.plan(1, 3);
        x.official(0, 4);
        x.official(0, 2);
        // 0 would be at hand for match 0, but 1 may serve in that alone.
        officials("two have one", x, 2, 1, 0);
    }

    private static void firstRow() {
        SportsHouse x = day(4, 4, 4);
        x.official(5, 2);
        x.official(3, 2);
        officials("the first row; who has none counts as 8", x, 2, 0, 1, NONE);
        SportsHouse y = day(4, 6);
        y.official(6, 2);
        y.official(4, 2);
        y.official(5, 2);
        officials("sum before row", y, 2, 1, 0);
        SportsHouse z = day(4, 4);
        z.official(3, 2);
        officials("one for two", z, 1, 0, NONE);
        SportsHouse w = day(4, 3);
        w.official(3, 2);
        officials("where it is nearer", w, 1, NONE, 0);
    }

    private static void latestAssign() {
        SportsHouse x = Setup.league("field1;legs2;every1;", 2, 1);
        x.official(0, 5);
        CHECK.due("assign(0)", x.assign(0), 1);
        x.official(1, 5);
        x.postpone(1, 9);
        CHECK.due("assign(9)", x.assign(9), 1);
        CHECK.due("the nearer one", x.officialOf(1), 1);
        x.postpone(1, 8);
        CHECK.due("it keeps it when it is postponed", x.officialOf(1), 1);
        CHECK.due("assign(9) again", x.assign(9), 0);
        CHECK.due("is not for it", x.officialOf(1), 1);
        x.lineUp(0, 0, 0);
        x.lineUp(1, 0, 1);
        x.start(0);
        CHECK.due("a match that goes on", x.assign(0), 1);
        for (int k = 0; k < 3; k++) {
            x.event(0, 0, 0, 0, 0);
        }
        CHECK.due("a match that has ended", x.assign(0), 0);
        CHECK.due("keeps it", x.officialOf(0), 0);
        x.day(8);
        x.walkOver(1, 0);
        CHECK.due("a match walked over", x.assign(8), 0);
        CHECK.due("keeps it, too", x.officialOf(1), 1);
        SportsHouse y = day(3, 4);
        y.official(3, 2);
        officials("match 0", y, 1, 0, NONE);
        y.postpone(1, 20);
        y.postpone(0, 21);
        y.postpone(1, 3);
        officials("match 1 now", y, 1, 0, 0);
        y.postpone(0, 3);
        officials("both again: none is taken away by this", y, 1, 0, NONE);
    }

    private static void manyMatches() {
        SportsHouse x = new SportsHouse();
        for (int k = 0; k < 12; k++) {
            x.club(k, k % 4);
        }
        for (int c = 0; c < 4; c++) {
            x.competition();
            Setup.enterAll(x, c, 12);
            x.plan(c, 3);
        }
        for (int k = 0; k < 8; k++) {
            x.official(11 - k, k);
        }
        CHECK.due("24 matches of a day", x.assign(3), 8);
        CHECK.due("all matches", x.count(5), 264);
        int seen = 0;
        for (int m = 0; m < 264; m++) {
            int who = x.officialOf(m);
            if (who != NONE) {
                CHECK.due("on that day", x.match(m, 4), 3);
                CHECK.due("neither club's country", x.match(m, 2) % 4 == who || x.match(m, 3) % 4 == who ? 1 : 0, 0);
                seen |= 1 << who;
            }
        }
        CHECK.due("each once", seen, 255);
    }
}
