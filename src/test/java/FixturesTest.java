/** Promises 12 to 18: entering, planning, matches, breaks, postponing, deducting. */
public final class FixturesTest {
    private static final Check CHECK = new Check("FixturesTest");
    private static final int NONE = SportsHouse.NONE;
    private static final int UNKNOWN = SportsHouse.UNKNOWN;
    private static final int OUTSIDE = SportsHouse.OUTSIDE;
    private static final int STATE = SportsHouse.STATE;
    private static final int ROOM = SportsHouse.ROOM;

    public static void main(String[] args) {
        entering();
        fourClubs();
        fiveClubs();
        twelveClubs();
        planning();
        roomForMatches();
        postponing();
        postponingInOneStadium();
        postponingWithRests();
        postponingAgainstOthers();
        noDayLeft();
        deducting();
        CHECK.end();
    }

    private static void entering() {
        SportsHouse x = new SportsHouse();
        x.competition();
        x.competition();
        Setup.clubs(x, 3);
        CHECK.due("enter(2, 0)", x.enter(2, 0), UNKNOWN);
        CHECK.due("enter(-1, 0)", x.enter(-1, 0), UNKNOWN);
        CHECK.due("enter(0, 3)", x.enter(0, 3), UNKNOWN);
        CHECK.due("enter(0, -1)", x.enter(0, -1), UNKNOWN);
        CHECK.due("enter(0, 2)", x.enter(0, 2), 1);
        CHECK.due("enter(0, 2) again", x.enter(0, 2), STATE);
        CHECK.due("enter(0, 0)", x.enter(0, 0), 2);
        CHECK.due("enter(1, 2)", x.enter(1, 2), 1);
        x.plan(0, 0);
        CHECK.due("enter(0, 1) when it is planned", x.enter(0, 1), STATE);
        CHECK.due("the one who entered first is at home", x.match(0, 2), 2);
    }

    /** The fixtures as rows of round, home, away, day. */
    private static void fixtures(String name, SportsHouse x, int[][] want) {
        CHECK.due(name + ": how many", x.count(5), want.length);
        for (int m = 0; m < want.length; m++) {
            for (int k = 0; k < 4; k++) {
                CHECK.due(name + ": match(" + m + ", " + (k + 1) + ")", x.match(m, k + 1), want[m][k]);
            }
            CHECK.due(name + ": it is told", x.match(m, 5), 0);
            CHECK.due(name + ": score", x.match(m, 6) + x.match(m, 7), 0);
        }
    }

    private static void fourClubs() {
        SportsHouse x = Setup.league("legs2;every3;", 4, 0);
        fixtures("four clubs", x, new int[][] {{0, 0, 3, 0}, {0, 1, 2, 0}, {1, 3, 1, 3}, {1, 2, 0, 3}, {2, 2, 3, 6},
            {2, 0, 1, 6}, {3, 3, 0, 9}, {3, 2, 1, 9}, {4, 1, 3, 12}, {4, 0, 2, 12}, {5, 3, 2, 15}, {5, 1, 0, 15}});
        int[] breaks = {0, 3, 3, 0};
        for (int club = 0; club < 4; club++) {
            CHECK.due("breaks(0, " + club + ")", x.breaks(0, club), breaks[club]);
        }
        CHECK.due("match(0, 0)", x.match(0, 0), 0);
        CHECK.due("match(0, -1)", x.match(0, -1), OUTSIDE);
        CHECK.due("match(0, 8)", x.match(0, 8), OUTSIDE);
        CHECK.due("match(12, 0)", x.match(12, 0), UNKNOWN);
        CHECK.due("match(-1, 9)", x.match(-1, 9), UNKNOWN);
    }

    private static void fiveClubs() {
        SportsHouse x = new SportsHouse();
        x.competition();
        Setup.rules(x, "every1;");
        Setup.clubs(x, 6);
        for (int club = 5; club >= 1; club--) {
            x.enter(1, club);
        }
        x.enter(0, 0);
        CHECK.due("plan(1, 2)", x.plan(1, 2), 0);
        // Places 0 to 4 are clubs 5 to 1.
        fixtures("five clubs", x, new int[][] {{0, 4, 1, 2}, {0, 2, 3, 2}, {1, 3, 5, 3}, {1, 1, 2, 3}, {2, 2, 4, 4},
            {2, 5, 1, 4}, {3, 1, 3, 5}, {3, 4, 5, 5}, {4, 5, 2, 6}, {4, 3, 4, 6}});
        CHECK.due("match(9, 0)", x.match(9, 0), 1);
        for (int club = 1; club < 6; club++) {
            CHECK.due("breaks(1, " + club + ")", x.breaks(1, club), 0);
        }
        CHECK.due("breaks of one who has not entered", x.breaks(1, 0), STATE);
        CHECK.due("breaks of what is not planned", x.breaks(0, 0), STATE);
        CHECK.due("breaks(2, 0)", x.breaks(2, 0), UNKNOWN);
        CHECK.due("breaks(1, 6)", x.breaks(1, 6), UNKNOWN);
        CHECK.due("breaks(-1, -1)", x.breaks(-1, -1), UNKNOWN);
    }

    private static void twelveClubs() {
        SportsHouse x = Setup.league("legs4;", 12, 0);
        CHECK.due("matches of twelve clubs in four legs", x.count(5), 264);
        int[] meetings = new int[144];
        int[] atHome = new int[12];
        for (int m = 0; m < 264; m++) {
            // An object is used for 512 calls at most.
            x = m % 66 == 0 ? Setup.league("legs4;", 12, 0) : x;
            int home = x.match(m, 2);
            meetings[home * 12 + x.match(m, 3)]++;
            atHome[home]++;
            CHECK.due("round of " + m, x.match(m, 1), m / 6);
            CHECK.due("day of " + m, x.match(m, 4), m / 6 * 7);
        }
        for (int k = 0; k < 144; k++) {
            CHECK.due("meetings " + k, meetings[k], k / 12 == k % 12 ? 0 : 2);
        }
        int breaks = 0;
        SportsHouse one = Setup.league("", 12, 0);
        for (int club = 0; club < 12; club++) {
            CHECK.due("at home " + club, atHome[club], 22);
            breaks += one.breaks(0, club);
        }
        CHECK.due("the fewest breaks that there can be in one leg", breaks, 10);
    }

    private static void planning() {
        SportsHouse x = new SportsHouse();
        Setup.rules(x, "legs2;every10;");
        Setup.rules(x, "legs2;every10;");
        Setup.clubs(x, 3);
        x.day(5);
        CHECK.due("plan(2, 5)", x.plan(2, 5), UNKNOWN);
        CHECK.due("plan(-1, 5)", x.plan(-1, 5), UNKNOWN);
        CHECK.due("before TODAY", x.plan(0, 4), OUTSIDE);
        CHECK.due("below 0", x.plan(0, Integer.MIN_VALUE), OUTSIDE);
        CHECK.due("beyond 999", x.plan(0, 1000), OUTSIDE);
        CHECK.due("without a club", x.plan(0, 5), STATE);
        x.enter(0, 0);
        CHECK.due("with one club", x.plan(0, 5), STATE);
        x.enter(0, 1);
        x.enter(0, 2);
        // Three clubs have three rounds a leg, so the last is 50 days behind the first.
        CHECK.due("its last day is 1000", x.plan(0, 950), STATE);
        CHECK.due("nothing came of it", x.count(5), 0);
        CHECK.due("its last day is 999", x.plan(0, 949), 0);
        CHECK.due("the last match", x.match(5, 4), 999);
        CHECK.due("again", x.plan(0, 5), STATE);
        x.enter(1, 2);
        x.enter(1, 1);
        CHECK.due("the next one, TODAY", x.plan(1, 5), 6);
        CHECK.due("its competition", x.match(6, 0), 1);
        CHECK.due("its second leg", x.match(7, 2), 1);
    }

    /** Competitions of so many legs each; the first two of twelve clubs, the others of two. */
    private static SportsHouse fourCompetitions(int... legs) {
        SportsHouse x = new SportsHouse();
        Setup.clubs(x, 12);
        for (int c = 0; c < 4; c++) {
            Setup.rules(x, "legs" + legs[c] + ";");
            Setup.enterAll(x, c, c < 2 ? 12 : 2);
        }
        return x;
    }

    private static void roomForMatches() {
        SportsHouse x = fourCompetitions(4, 2, 4, 1);
        CHECK.due("264 matches", x.plan(0, 0), 0);
        CHECK.due("396 matches", x.plan(1, 0), 264);
        CHECK.due("400 matches", x.plan(2, 0), 396);
        CHECK.due("401 matches", x.plan(3, 0), ROOM);
        CHECK.due("count(5)", x.count(5), 400);
        CHECK.due("the last one", x.match(399, 0), 2);
        CHECK.due("match(400, 0)", x.match(400, 0), UNKNOWN);
        SportsHouse y = fourCompetitions(4, 2, 4, 1);
        y.plan(0, 0);
        y.plan(1, 0);
        CHECK.due("397 matches", y.plan(3, 0), 396);
        CHECK.due("401 matches", y.plan(2, 0), ROOM);
        CHECK.due("STATE comes before ROOM", y.plan(2, 999), STATE);
        CHECK.due("count(5)", y.count(5), 397);
        CHECK.due("it is not planned", y.enter(2, 2), 3);
        SportsHouse z = fourCompetitions(4, 3, 1, 1);
        z.plan(0, 0);
        CHECK.due("all legs count", z.plan(1, 0), ROOM);
    }

    private static void days(String name, SportsHouse x, int... want) {
        for (int m = 0; m < want.length; m++) {
            CHECK.due(name + ": day of " + m, x.match(m, 4), want[m]);
        }
    }

    private static void postponing() {
        SportsHouse x = Setup.league("every1;", 4, 0);
        CHECK.due("postpone(6, 1)", x.postpone(6, 1), UNKNOWN);
        CHECK.due("to TODAY", x.postpone(2, 0), OUTSIDE);
        CHECK.due("beyond 999", x.postpone(2, 1000), OUTSIDE);
        CHECK.due("its own day", x.postpone(2, 1), STATE);
        // 0-3 comes where 3-1 and 2-0 are; both go behind 2-3 and 0-1.
        CHECK.due("postpone(0, 1)", x.postpone(0, 1), 2);
        days("postponed", x, 1, 0, 3, 3, 2, 2);
        CHECK.due("moved(0)", x.moved(0), 2);
        CHECK.due("moved(1)", x.moved(1), 3);
        CHECK.due("moved(2)", x.moved(2), NONE);
        CHECK.due("moved(-1)", x.moved(-1), NONE);
        CHECK.due("a refused one", x.postpone(0, 1), STATE);
        CHECK.due("changes nothing", x.moved(1), 3);
        CHECK.due("to a free day", x.postpone(1, 9), 0);
        CHECK.due("moved none", x.moved(0), NONE);
        x.day(1);
        x.walkOver(0, 0);
        CHECK.due("what was walked over", x.postpone(0, 9), STATE);
        CHECK.due("does not stand against", x.postpone(2, 4), 0);
    }

    private static void postponingInOneStadium() {
        SportsHouse x = new SportsHouse();
        Setup.rules(x, "every1;");
        for (int k = 0; k < 4; k++) {
            x.club(k < 2 ? k : 5, 0);
        }
        Setup.enterAll(x, 0, 4);
        x.plan(0, 0);
        CHECK.due("postpone(0, 1)", x.postpone(0, 1), 2);
        // 3-1 and 2-0 can't be on one day, both being in stadium 5.
        days("one stadium", x, 1, 0, 3, 4, 2, 2);
        CHECK.due("0-1 comes where 1-2 is, with a club in both", x.postpone(1, 4), 1);
        CHECK.due("which goes on to the next", x.match(3, 4), 5);
    }

    private static void postponingWithRests() {
        SportsHouse x = Setup.league("every5;rest2;legs4;", 2, 0);
        days("rests", x, 0, 5, 10, 15);
        CHECK.due("two days before the next", x.postpone(0, 3), 0);
        CHECK.due("one day before the next", x.postpone(0, 4), 1);
        days("rests", x, 4, 6, 10, 15);
        CHECK.due("one day behind", x.postpone(0, 11), 1);
        days("rests", x, 11, 6, 13, 15);
        CHECK.due("it goes behind all that it stands against", x.postpone(3, 12), 2);
        // 0 can go to 15 alone, as 2 still stands on 13 then.
        days("rests", x, 15, 6, 17, 12);
        CHECK.due("moved(0)", x.moved(0), 0);
        CHECK.due("moved(1)", x.moved(1), 2);
        SportsHouse y = new SportsHouse();
        Setup.rules(y, "every9;rest4;");
        Setup.rules(y, "every9;rest1;");
        Setup.clubs(y, 2);
        Setup.enterAll(y, 0, 2);
        Setup.enterAll(y, 1, 2);
        y.plan(0, 10);
        y.plan(1, 20);
        CHECK.due("the greater of both rests", y.postpone(1, 13), 1);
        days("two competitions", y, 17, 13);
        CHECK.due("just beyond it", y.postpone(1, 21), 0);
    }

    private static void postponingAgainstOthers() {
        SportsHouse x = Setup.league("field1;legs2;every5;rest3;", 2, 1);
        x.lineUp(0, 0, 0);
        x.lineUp(1, 0, 1);
        x.start(0);
        CHECK.due("one that goes on can't be postponed", x.postpone(0, 9), STATE);
        CHECK.due("against one that goes on", x.postpone(1, 2), STATE);
        for (int k = 0; k < 3; k++) {
            x.event(0, 0, 0, 0, 0);
        }
        CHECK.due("against one that has ended", x.postpone(1, 2), STATE);
        days("against others", x, 0, 5);
        CHECK.due("far enough", x.postpone(1, 3), 0);
        CHECK.due("one that has ended can't be postponed", x.postpone(0, 9), STATE);
    }

    private static void noDayLeft() {
        SportsHouse x = new SportsHouse();
        Setup.rules(x, "every1;legs3;");
        Setup.clubs(x, 2);
        Setup.enterAll(x, 0, 2);
        x.plan(0, 997);
        CHECK.due("none behind 999", x.postpone(0, 999), STATE);
        days("nothing is done", x, 997, 998, 999);
        CHECK.due("no free one up to 999", x.postpone(2, 998), 1);
        days("998 came free", x, 997, 999, 998);
        CHECK.due("997 is its own", x.postpone(1, 997), 1);
        days("999 was free again", x, 999, 997, 998);
        CHECK.due("998 and 999 are taken", x.postpone(2, 997), 1);
        days("by turns", x, 999, 998, 997);
    }

    private static void deducting() {
        SportsHouse x = new SportsHouse();
        x.competition();
        x.competition();
        Setup.clubs(x, 2);
        x.enter(0, 0);
        x.enter(1, 1);
        CHECK.due("deduct(2, 0, 1)", x.deduct(2, 0, 1), UNKNOWN);
        CHECK.due("deduct(0, 2, 0)", x.deduct(0, 2, 0), UNKNOWN);
        CHECK.due("deduct(0, 0, 0)", x.deduct(0, 0, 0), OUTSIDE);
        CHECK.due("deduct(0, 0, 100)", x.deduct(0, 0, 100), OUTSIDE);
        CHECK.due("OUTSIDE comes before STATE", x.deduct(0, 1, 100), OUTSIDE);
        CHECK.due("it has not entered", x.deduct(0, 1, 1), STATE);
        CHECK.due("one point", x.deduct(0, 0, 1), 1);
        x.day(4);
        CHECK.due("99 points", x.deduct(0, 0, 99), 2);
        CHECK.due("another competition", x.deduct(1, 1, 5), 3);
        CHECK.due("on day 3", x.table(0, 3, 0, 6), -1);
        CHECK.due("on day 4", x.table(0, 4, 0, 6), -100);
        CHECK.due("the other", x.table(1, 4, 1, 6), -5);
        for (int n = 4; n <= 50; n++) {
            CHECK.due("time " + n, x.deduct(0, 0, 1), n);
        }
        CHECK.due("the 51st time", x.deduct(0, 0, 1), ROOM);
        CHECK.due("STATE comes before ROOM", x.deduct(0, 1, 1), STATE);
        CHECK.due("the sum", x.table(0, 999, 0, 6), -147);
    }
}
