/** Promises 19 to 22: who is eligible, line-ups, the start, and walk-overs. */
public final class SheetsTest {
    private static final Check CHECK = new Check("SheetsTest");
    private static final int NONE = SportsHouse.NONE;
    private static final int UNKNOWN = SportsHouse.UNKNOWN;
    private static final int OUTSIDE = SportsHouse.OUTSIDE;
    private static final int STATE = SportsHouse.STATE;
    private static final int ROOM = SportsHouse.ROOM;

    public static void main(String[] args) {
        registering();
        sheets();
        otherMatches();
        firstMatchOfTheDay();
        starting();
        walkingOver();
        bansByYellows();
        bansByRed();
        bansByBoth();
        bansAndWalkOvers();
        bansAndClubs();
        bansByDays();
        bansOfOtherCompetitions();
        CHECK.end();
    }

    private static void registering() {
        SportsHouse x = Setup.league("legs4;every1;", 2, 0);
        x.person();
        x.person();
        CHECK.due("no span", x.eligible(0, 0, 0), 1);
        x.register(0, 0, 1, 2);
        x.register(0, 1, 3, 3);
        // Match m is on day m, at home is club 0 in 0 and 2, club 1 in 1 and 3.
        int[][] want = {{1, 1}, {1, 0}, {0, 1}, {0, 1}};
        for (int m = 0; m < 4; m++) {
            for (int side = 0; side < 2; side++) {
                CHECK.due("eligible(0, " + m + ", " + side + ")", x.eligible(0, m, side), want[m][side]);
            }
        }
        CHECK.due("eligible(2, 0, 0)", x.eligible(2, 0, 0), UNKNOWN);
        CHECK.due("eligible(-1, 0, 0)", x.eligible(-1, 0, 0), UNKNOWN);
        CHECK.due("eligible(0, 4, 5)", x.eligible(0, 4, 5), UNKNOWN);
        CHECK.due("eligible(0, 0, 2)", x.eligible(0, 0, 2), OUTSIDE);
        CHECK.due("eligible(0, 0, -1)", x.eligible(0, 0, -1), OUTSIDE);
        x.postpone(2, 5);
        CHECK.due("the match's day, not its round", x.eligible(0, 2, 0), 1);
    }

    private static void sheets() {
        SportsHouse x = Setup.league("field2;", 2, 8);
        CHECK.due("lineUp(16, 0, 0)", x.lineUp(16, 0, 0), UNKNOWN);
        CHECK.due("lineUp(0, 1, 0)", x.lineUp(0, 1, 0), UNKNOWN);
        CHECK.due("lineUp(0, 0, 2)", x.lineUp(0, 0, 2), OUTSIDE);
        CHECK.due("of the other club", x.lineUp(8, 0, 0), -11);
        CHECK.due("the first", x.lineUp(3, 0, 0), 1);
        CHECK.due("twice", x.lineUp(3, 0, 0), -13);
        CHECK.due("why", x.eligible(3, 0, 0), 3);
        CHECK.due("the other side", x.lineUp(9, 0, 1), 1);
        int[] others = {4, 5, 6, 7, 2};
        for (int k = 0; k < others.length; k++) {
            CHECK.due("number " + (k + 2), x.lineUp(others[k], 0, 0), k + 2);
        }
        CHECK.due("the seventh", x.lineUp(0, 0, 0), ROOM);
        CHECK.due("ROOM comes before why", x.lineUp(9, 0, 0), ROOM);
        CHECK.due("it would be eligible", x.eligible(0, 0, 0), 0);
        CHECK.due("the other sheet has one", x.lineUp(10, 0, 1), 2);
        x.start(0);
        CHECK.due("when it goes on", x.lineUp(11, 0, 1), STATE);
        CHECK.due("STATE comes before ROOM", x.lineUp(0, 0, 0), STATE);
        CHECK.due("eligible is told all the same", x.eligible(11, 0, 1), 0);
        CHECK.due("first on the field", x.onField(0, 0, 0), 3);
        CHECK.due("second on the field", x.onField(0, 0, 1), 4);
        CHECK.due("third is on the bench", x.onField(0, 0, 2), NONE);
    }

    private static void otherMatches() {
        SportsHouse x = new SportsHouse();
        Setup.rules(x, "every1;field1;");
        Setup.rules(x, "every1;field1;");
        Setup.clubs(x, 3);
        for (int k = 0; k < 6; k++) {
            x.register(x.person(), k / 2, 0, 999);
        }
        Setup.enterAll(x, 0, 3);
        Setup.enterAll(x, 1, 2);
        x.plan(0, 0);
        x.plan(1, 2);
        // Days: 0: 1-2, 1: 2-0, 2: 0-1 and, of the second competition, match 3: 0-1.
        CHECK.due("one day, another match", x.lineUp(0, 2, 0), 1);
        CHECK.due("it is on a sheet that day", x.lineUp(0, 3, 0), -14);
        CHECK.due("on another day", x.lineUp(0, 1, 1), 1);
        x.lineUp(4, 0, 1);
        x.postpone(1, 9);
        x.postpone(0, 9);
        CHECK.due("match 0 goes where match 1 was put", x.match(1, 4), 10);
        x.postpone(1, 1);
        x.day(2);
        x.walkOver(2, 1);
        CHECK.due("a match walked over does not count", x.lineUp(0, 3, 0), 1);
        x.postpone(3, 9);
        CHECK.due("the sheet goes with the match", x.eligible(0, 3, 0), 3);
        x.lineUp(2, 3, 1);
        x.day(9);
        CHECK.due("it begins", x.start(3), 1);
        CHECK.due("with whom it had", x.onField(3, 0, 0), 0);
    }

    private static void starting() {
        SportsHouse x = Setup.league("field2;every4;legs2;", 2, 2);
        CHECK.due("start(2)", x.start(2), UNKNOWN);
        CHECK.due("start(-1)", x.start(-1), UNKNOWN);
        CHECK.due("empty sheets", x.start(0), STATE);
        x.lineUp(0, 0, 0);
        x.lineUp(1, 0, 0);
        x.lineUp(2, 0, 1);
        CHECK.due("one too few", x.start(0), STATE);
        x.lineUp(3, 0, 1);
        x.day(1);
        CHECK.due("its day is gone", x.start(0), STATE);
        x.postpone(0, 2);
        CHECK.due("its day is to come", x.start(0), STATE);
        x.day(2);
        CHECK.due("it begins", x.start(0), 1);
        CHECK.due("it goes on", x.match(0, 5), 1);
        CHECK.due("twice", x.start(0), STATE);
        x.day(4);
        x.walkOver(1, 0);
        CHECK.due("walked over", x.start(1), STATE);
    }

    private static void walkingOver() {
        SportsHouse x = Setup.league("walkover 7;field1;every2;legs3;", 2, 1);
        CHECK.due("walkOver(3, 0)", x.walkOver(3, 0), UNKNOWN);
        CHECK.due("walkOver(0, 2)", x.walkOver(0, 2), OUTSIDE);
        CHECK.due("walkOver(0, -1)", x.walkOver(0, -1), OUTSIDE);
        CHECK.due("its day is to come", x.walkOver(1, 0), STATE);
        CHECK.due("OUTSIDE comes before STATE", x.walkOver(1, 2), OUTSIDE);
        CHECK.due("today", x.walkOver(0, 0), 1);
        CHECK.due("what it is", x.match(0, 5), 3);
        CHECK.due("home", x.match(0, 6), 0);
        CHECK.due("away", x.match(0, 7), 7);
        CHECK.due("twice", x.walkOver(0, 1), STATE);
        CHECK.due("an event", x.event(0, 0, 0, 0, 0), -11);
        CHECK.due("its state", x.state(0, 0), STATE);
        CHECK.due("its field", x.onField(0, 0, 0), NONE);
        CHECK.due("its rows", x.rows(0, 0), 0);
        CHECK.due("a review", x.review(0, 0, 0, 0, 0, 0), UNKNOWN);
        CHECK.due("its sheets", x.lineUp(0, 0, 0), STATE);
        x.day(3);
        CHECK.due("a day later", x.walkOver(1, 1), 1);
        CHECK.due("home wins", x.match(1, 6), 7);
        x.day(4);
        x.lineUp(0, 2, 0);
        x.lineUp(1, 2, 1);
        x.start(2);
        CHECK.due("one that goes on", x.walkOver(2, 0), STATE);
    }

    /** Two clubs of three persons each (0 to 2 and 3 to 5) that meet every day. */
    private static SportsHouse series(String text) {
        return Setup.league(text + "field2;legs4;every1;", 2, 3);
    }

    /** Plays the match of today with persons 0, 1 against 3, 4 as far as they may; cards are given to person 0. */
    private static void playWith(SportsHouse x, int m, int person, int yellows, int reds) {
        while (x.count(7) < x.match(m, 4)) {
            x.day(x.count(7) + 1);
        }
        int clubZero = x.match(m, 2) == 0 ? 0 : 1;
        for (int p = 0; p < 3; p++) {
            x.lineUp(p, m, clubZero);
            x.lineUp(3 + p, m, 1 - clubZero);
        }
        CHECK.due("start(" + m + ")", x.start(m), 1);
        int side = person < 3 ? clubZero : 1 - clubZero;
        for (int k = 0; k < yellows; k++) {
            x.event(m, 3, side, person, 0);
        }
        for (int k = 0; k < reds; k++) {
            x.event(m, 4, side, person, 0);
        }
        for (int k = 0; k < 3; k++) {
            x.event(m, 0, 0, 0, 0);
        }
        CHECK.due("ended(" + m + ")", x.match(m, 5), 2);
    }

    private static int mayPlay(SportsHouse x, int person, int m) {
        int club = person < 3 ? 0 : 1;
        return x.eligible(person, m, x.match(m, 2) == club ? 0 : 1);
    }

    private static void bansByYellows() {
        SportsHouse x = series("cards2;");
        playWith(x, 0, 0, 1, 0);
        CHECK.due("one yellow", mayPlay(x, 0, 1), 0);
        playWith(x, 1, 0, 1, 0);
        CHECK.due("two yellows", mayPlay(x, 0, 2), 2);
        CHECK.due("not served yet", mayPlay(x, 0, 3), 2);
        CHECK.due("for a match ahead of it none", mayPlay(x, 0, 1), 3);
        CHECK.due("another person", mayPlay(x, 1, 2), 0);
        x.day(2);
        CHECK.due("lineUp tells it", x.lineUp(0, 2, 0), -12);
        playWith(x, 2, 1, 1, 0);
        CHECK.due("served", mayPlay(x, 0, 3), 0);
        playWith(x, 3, 0, 1, 0);
        SportsHouse y = series("cards1;");
        playWith(y, 0, 3, 1, 0);
        CHECK.due("each yellow counts", mayPlay(y, 3, 1), 2);
        SportsHouse z = series("");
        playWith(z, 0, 0, 1, 0);
        playWith(z, 1, 0, 1, 0);
        CHECK.due("three are needed", mayPlay(z, 0, 2), 0);
        playWith(z, 2, 0, 1, 0);
        CHECK.due("the third", mayPlay(z, 0, 3), 2);
    }

    private static void bansByRed() {
        SportsHouse x = series("");
        playWith(x, 0, 0, 0, 1);
        CHECK.due("one match", mayPlay(x, 0, 1), 2);
        playWith(x, 1, 1, 0, 0);
        CHECK.due("is served", mayPlay(x, 0, 2), 0);
        SportsHouse y = series("red2;");
        playWith(y, 0, 4, 2, 0);
        CHECK.due("the second yellow in a match", mayPlay(y, 4, 1), 2);
        playWith(y, 1, 0, 0, 0);
        CHECK.due("one of two served", mayPlay(y, 4, 2), 2);
        playWith(y, 2, 0, 0, 0);
        CHECK.due("both served", mayPlay(y, 4, 3), 0);
    }

    private static void bansByBoth() {
        // Yellows of a match in which it was sent off do not count on.
        SportsHouse x = series("cards2;");
        playWith(x, 0, 0, 1, 1);
        playWith(x, 1, 1, 0, 0);
        playWith(x, 2, 0, 1, 0);
        CHECK.due("one yellow alone counts", mayPlay(x, 0, 3), 0);
        // Sent off, its yellow makes no ban of its own besides.
        SportsHouse y = series("cards1;");
        playWith(y, 0, 0, 1, 1);
        playWith(y, 1, 1, 0, 0);
        CHECK.due("red alone", mayPlay(y, 0, 2), 0);
        // A match that is reviewed takes its ban back.
        SportsHouse z = series("");
        playWith(z, 0, 0, 0, 1);
        CHECK.due("banned", mayPlay(z, 0, 1), 2);
        z.review(0, 0, 1, 0, 0, 0);
        CHECK.due("a goal it was", mayPlay(z, 0, 1), 0);
        z.review(0, 0, 4, 0, 0, 0);
        CHECK.due("a red it was", mayPlay(z, 0, 1), 2);
        z.review(0, 3, NONE, 0, 0, 0);
        CHECK.due("as long as it goes on there is no ban", mayPlay(z, 0, 1), 0);
    }

    private static void bansAndWalkOvers() {
        SportsHouse x = series("");
        playWith(x, 0, 0, 0, 1);
        x.day(1);
        x.walkOver(1, 0);
        CHECK.due("served in a match walked over", mayPlay(x, 0, 2), 0);
    }

    private static void bansAndClubs() {
        SportsHouse x = new SportsHouse();
        Setup.rules(x, "field2;legs2;every1;");
        Setup.clubs(x, 3);
        for (int k = 0; k < 6; k++) {
            x.person();
        }
        x.register(0, 1, 0, 0);
        x.register(0, 0, 1, 999);
        x.register(1, 1, 0, 999);
        x.register(2, 2, 0, 999);
        x.register(3, 2, 0, 999);
        Setup.enterAll(x, 0, 3);
        x.plan(0, 0);
        // 0: 1-2, 1: 2-0, 2: 0-1, 3: 2-1, 4: 0-2, 5: 1-0.
        x.lineUp(0, 0, 0);
        x.lineUp(1, 0, 0);
        x.lineUp(2, 0, 1);
        x.lineUp(3, 0, 1);
        x.start(0);
        x.event(0, 4, 0, 0, 0);
        for (int k = 0; k < 3; k++) {
            x.event(0, 0, 0, 0, 0);
        }
        CHECK.due("sent off with the old club, banned with the new one", x.eligible(0, 1, 1), 2);
        x.day(1);
        x.walkOver(1, 0);
        CHECK.due("served with the new one", x.eligible(0, 2, 0), 0);
        x.day(3);
        x.walkOver(3, 0);
        x.postpone(1, 99);
        CHECK.due("a match of the old club serves nothing", x.eligible(0, 5, 1), 0);
    }

    private static void bansByDays() {
        SportsHouse x = series("");
        // Match 0 is played behind match 1, so what came of it is served in match 2 at the earliest.
        x.postpone(0, 9);
        x.postpone(2, 10);
        x.postpone(3, 11);
        playWith(x, 1, 0, 0, 1);
        CHECK.due("the next by days is match 0", mayPlay(x, 0, 0), 2);
        CHECK.due("match 2 comes behind it", mayPlay(x, 0, 2), 2);
        playWith(x, 0, 1, 0, 0);
        CHECK.due("served in match 0", mayPlay(x, 0, 2), 0);
        SportsHouse y = series("");
        y.postpone(0, 9);
        y.postpone(1, 5);
        y.postpone(3, 11);
        y.postpone(2, 10);
        playWith(y, 1, 1, 0, 0);
        playWith(y, 0, 1, 0, 1);
        CHECK.due("match 1 came before, and served nothing", mayPlay(y, 1, 2), 2);
        playWith(y, 2, 0, 0, 1);
        CHECK.due("served in match 2", mayPlay(y, 1, 3), 0);
        CHECK.due("to be served", mayPlay(y, 0, 3), 2);
        SportsHouse z = series("red2;");
        z.postpone(0, 20);
        z.postpone(1, 19);
        z.postpone(2, 18);
        z.postpone(3, 21);
        playWith(z, 2, 0, 0, 1);
        CHECK.due("two to serve", mayPlay(z, 0, 1), 2);
        playWith(z, 1, 1, 0, 0);
        CHECK.due("one to serve", mayPlay(z, 0, 0), 2);
        playWith(z, 0, 4, 0, 1);
        CHECK.due("none to serve", mayPlay(z, 0, 3), 0);
        CHECK.due("the last one's is to serve", mayPlay(z, 4, 3), 2);
    }

    private static void firstMatchOfTheDay() {
        SportsHouse x = new SportsHouse();
        Setup.rules(x, "field1;");
        Setup.rules(x, "field1;");
        Setup.clubs(x, 2);
        x.register(x.person(), 0, 0, 999);
        for (int c = 0; c < 2; c++) {
            Setup.enterAll(x, c, 2);
            x.plan(c, 0);
        }
        x.lineUp(0, 0, 0);
        CHECK.due("on the sheet of match 0", x.eligible(0, 1, 0), 4);
    }

    private static void bansOfOtherCompetitions() {
        SportsHouse x = new SportsHouse();
        Setup.rules(x, "field2;");
        Setup.rules(x, "field2;");
        Setup.clubs(x, 2);
        for (int k = 0; k < 4; k++) {
            x.register(x.person(), k / 2, 0, 999);
        }
        Setup.enterAll(x, 0, 2);
        Setup.enterAll(x, 1, 2);
        x.plan(0, 0);
        x.plan(1, 1);
        for (int k = 0; k < 4; k++) {
            x.lineUp(k, 0, k / 2);
        }
        x.start(0);
        x.event(0, 4, 0, 0, 0);
        for (int k = 0; k < 3; k++) {
            x.event(0, 0, 0, 0, 0);
        }
        CHECK.due("each competition has its own bans", x.eligible(0, 1, 0), 0);
    }
}
