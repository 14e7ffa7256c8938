/** Promises 32 to 35: who can be first, the witness, the cut, and firsts. */
public final class TitleTest {
    private static final Check CHECK = new Check("TitleTest");
    private static final int NONE = SportsHouse.NONE;
    private static final int UNKNOWN = SportsHouse.UNKNOWN;
    private static final int STATE = SportsHouse.STATE;

    public static void main(String[] args) {
        refusals();
        allIsLeft();
        fewPointsAreEnough();
        levelPoints();
        cuts();
        cutsByNumbers();
        allPointsAlike();
        notTold();
        notToldWhenEven();
        latestOne();
        matchesThatGoOn();
        firstsOfTwo();
        firstsOfMore();
        firstsWithCards();
        CHECK.end();
    }

    private static void refusals() {
        SportsHouse x = new SportsHouse();
        x.competition();
        Setup.clubs(x, 3);
        Setup.enterAll(x, 0, 2);
        CHECK.due("can before it is planned", x.can(0, 0), STATE);
        CHECK.due("firsts before it is planned", x.firsts(0, 0), STATE);
        x.plan(0, 0);
        CHECK.due("can(1, 0)", x.can(1, 0), UNKNOWN);
        CHECK.due("can(0, 3)", x.can(0, 3), UNKNOWN);
        CHECK.due("can(-1, -1)", x.can(-1, -1), UNKNOWN);
        CHECK.due("it has not entered", x.can(0, 2), STATE);
        CHECK.due("firsts(1, 0)", x.firsts(1, 0), UNKNOWN);
        CHECK.due("firsts(0, 3)", x.firsts(0, 3), UNKNOWN);
        CHECK.due("it has not entered", x.firsts(0, 2), STATE);
        CHECK.due("witness before can", x.witness(0), NONE);
        CHECK.due("witness(1)", x.witness(1), UNKNOWN);
        CHECK.due("witness(-1)", x.witness(-1), UNKNOWN);
        CHECK.due("cut before can", x.cut(), 0);
    }

    private static void witness(String name, SportsHouse x, int... want) {
        for (int m = 0; m < want.length; m++) {
            CHECK.due(name + ": witness(" + m + ")", x.witness(m), want[m]);
        }
    }

    private static void allIsLeft() {
        // 0: 0-3, 1: 1-2, 2: 3-1, 3: 2-0, 4: 2-3, 5: 0-1.
        SportsHouse x = Setup.league("", 4, 0);
        CHECK.due("can(0, 3)", x.can(0, 3), 1);
        witness("it wins its own", x, 2, 0, 0, 0, 2, 0);
        CHECK.due("can(0, 0)", x.can(0, 0), 1);
        witness("of another", x, 0, 0, 0, 2, 0, 0);
        CHECK.due("no cut", x.cut(), 0);
    }

    private static void fewPointsAreEnough() {
        SportsHouse x = Setup.league("", 4, 0);
        x.deduct(0, 3, 6);
        CHECK.due("with 3 points", x.can(0, 3), 1);
        witness("one win each", x, 2, 0, 0, 0, 2, 0);
        x.deduct(0, 3, 1);
        CHECK.due("with 2 points", x.can(0, 3), 1);
        witness("draws alone", x, 2, 1, 0, 1, 2, 1);
        x.deduct(0, 3, 1);
        CHECK.due("with 1 point", x.can(0, 3), 0);
        witness("none", x, NONE, NONE, NONE, NONE, NONE, NONE);
        CHECK.due("no cut with 3 1 0", x.cut(), 0);
        x.deduct(0, 1, 9);
        CHECK.due("with 1 point, when 1 wins its matches and 0 and 2 draw", x.can(0, 3), 1);
        witness("1 wins the others", x, 2, 0, 0, 1, 2, 2);
    }

    private static void levelPoints() {
        SportsHouse x = Setup.league("points 2 1 0;", 4, 0);
        x.deduct(0, 3, 4);
        CHECK.due("with 2 points", x.can(0, 3), 1);
        witness("one win each", x, 2, 0, 0, 0, 2, 0);
        x.deduct(0, 0, 2);
        x.deduct(0, 1, 1);
        x.deduct(0, 3, 1);
        // With 1 point: caps are 3, 2, 1 for the six parts.
        CHECK.due("with 1 point", x.can(0, 3), 1);
        witness("the first row that does", x, 2, 0, 0, 1, 2, 0);
        CHECK.due("cut", x.cut(), 0);
    }

    private static void cuts() {
        SportsHouse x = Setup.league("points 2 1 0;", 4, 0);
        x.deduct(0, 3, 5);
        CHECK.due("caps of 1 each", x.can(0, 3), 0);
        CHECK.due("all three are the cut", x.cut(), 7);
        x.deduct(0, 3, 1);
        CHECK.due("caps of 0 each", x.can(0, 3), 0);
        CHECK.due("0 and 1 are one", x.cut(), 3);
        x.deduct(0, 3, 1);
        CHECK.due("caps of -1", x.can(0, 3), 0);
        CHECK.due("one club alone", x.cut(), 1);
        SportsHouse y = Setup.league("points 4 2 0;", 4, 0);
        y.deduct(0, 3, 9);
        // 3 points are enough for one part of 2 each.
        CHECK.due("spare / 2 cut", y.can(0, 3), 0);
        CHECK.due("all three", y.cut(), 7);
        y.deduct(0, 1, 7);
        CHECK.due("club 1 may have both of its matches, and 0 and 2 draw", y.can(0, 3), 1);
        witness("first row", y, 2, 0, 0, 1, 2, 2);
        SportsHouse z = Setup.league("points 3 2 1;", 4, 0);
        // Each club has 3 matches left, so 3 points for losses.
        z.deduct(0, 3, 6);
        CHECK.due("best 3, none may win any more", z.can(0, 3), 0);
        CHECK.due("two of them", z.cut(), 3);
        z.deduct(0, 3, 1);
        CHECK.due("best 2", z.can(0, 3), 0);
        CHECK.due("one alone", z.cut(), 1);
    }

    private static void cutsByNumbers() {
        // Places 0 to 3 are clubs 5, 2, 7, 4; the bits are by clubs' numbers.
        SportsHouse x = new SportsHouse();
        Setup.rules(x, "points 2 1 0;");
        Setup.clubs(x, 8);
        for (int club : new int[] {5, 2, 7, 4}) {
            x.enter(0, club);
        }
        x.plan(0, 0);
        x.deduct(0, 4, 6);
        CHECK.due("can(0, 4)", x.can(0, 4), 0);
        CHECK.due("clubs 2 and 5", x.cut(), 1 << 2 | 1 << 5);
        x.deduct(0, 2, 9);
        CHECK.due("without 2", x.can(0, 4), 0);
        CHECK.due("clubs 5 and 7", x.cut(), 1 << 5 | 1 << 7);
    }

    private static void allPointsAlike() {
        SportsHouse x = Setup.league("points 1 1 1;", 4, 0);
        CHECK.due("all are alike", x.can(0, 3), 1);
        witness("home, but for its own", x, 2, 0, 0, 0, 2, 0);
        x.deduct(0, 3, 1);
        CHECK.due("one behind for good", x.can(0, 3), 0);
        CHECK.due("one club is the cut", x.cut(), 1);
        SportsHouse y = Setup.league("points 2 2 0;", 3, 0);
        // 0: 1-2, 1: 2-0, 2: 0-1.
        y.deduct(0, 0, 2);
        CHECK.due("a loss is less", y.can(0, 0), 1);
        witness("1 beats 2, who lost to 0", y, 0, 2, 0);
        y.deduct(0, 0, 1);
        CHECK.due("one of both has 2", y.can(0, 0), 0);
        CHECK.due("2 + 0 is not 2 * 2", y.cut(), 0);
    }

    private static void notTold() {
        // Six clubs: ten matches without the club.
        SportsHouse x = Setup.league("every1;", 6, 0);
        CHECK.due("ten others", x.can(0, 5), 2);
        CHECK.due("no witness", x.witness(0), NONE);
        CHECK.due("no cut", x.cut(), 0);
        int gone = 0;
        for (int m = 0; gone < 2; m++) {
            if (x.match(m, 2) != 5 && x.match(m, 3) != 5) {
                x.walkOver(m, 0);
                gone++;
                CHECK.due("gone " + gone, x.can(0, 5), gone < 2 ? 2 : 1);
            }
        }
        CHECK.due("one of the others is told for itself", x.can(0, x.match(14, 2)) >= 1 ? 1 : 0, 1);
    }

    private static void notToldWhenEven() {
        // Five clubs in four legs: 40 matches, 24 without one club; seven in three: 63, 45 without.
        SportsHouse x = Setup.league("points 2 1 0;legs4;every1;", 5, 0);
        CHECK.due("24 others", x.can(0, 4), 1);
        SportsHouse y = Setup.league("points 2 1 0;legs3;every1;", 7, 0);
        CHECK.due("45 others", y.can(0, 6), 2);
        int gone = 0;
        for (int m = 0; gone < 5; m++) {
            if (y.count(7) < y.match(m, 4)) {
                y.day(y.match(m, 4));
            }
            if (y.match(m, 2) != 6 && y.match(m, 3) != 6) {
                y.walkOver(m, gone % 2);
                gone++;
                CHECK.due("others gone " + gone, y.can(0, 6), gone < 5 ? 2 : 1);
            }
        }
        int points = 36;
        y.deduct(0, 6, points - 12);
        // 40 matches have 80 points, 10 points are made: 6 clubs may have 12 each at most.
        CHECK.due("90 points are too many for 72", y.can(0, 6), 0);
        CHECK.due("a set of the others", y.cut() > 0 && y.cut() < 64 ? 1 : 0, 1);
    }

    private static void latestOne() {
        SportsHouse x = new SportsHouse();
        Setup.rules(x, "points 2 1 0;");
        x.competition();
        Setup.clubs(x, 3);
        Setup.enterAll(x, 0, 2);
        Setup.enterAll(x, 1, 2);
        x.plan(0, 0);
        x.deduct(0, 0, 9);
        CHECK.due("can(0, 1)", x.can(0, 1), 1);
        x.plan(1, 5);
        witness("of another competition there is none", x, 2, NONE);
        x.walkOver(0, 1);
        CHECK.due("as it was asked", x.witness(0), 2);
        CHECK.due("a refused one", x.can(0, 2), STATE);
        CHECK.due("changes nothing", x.witness(0), 2);
        CHECK.due("another refused one", x.can(0, 9), UNKNOWN);
        CHECK.due("changes nothing", x.witness(0), 2);
        CHECK.due("can(0, 0)", x.can(0, 0), 0);
        CHECK.due("the one ahead of it", x.cut(), 2);
        CHECK.due("no witness", x.witness(0), NONE);
        CHECK.due("a refused one", x.can(0, 2), STATE);
        CHECK.due("leaves the cut", x.cut(), 2);
        CHECK.due("firsts leave it, too", x.firsts(0, 0), 0);
        CHECK.due("the cut", x.cut(), 2);
        CHECK.due("can(1, 0)", x.can(1, 0), 1);
        CHECK.due("no cut any more", x.cut(), 0);
        witness("of the other competition", x, NONE, 0);
        x.walkOver(0, 1);
        CHECK.due("can(0, 1) with nothing left", x.can(0, 1), 1);
        witness("nothing was left", x, NONE, NONE);
    }

    private static void matchesThatGoOn() {
        SportsHouse x = Setup.begun("field1;", 1);
        x.event(0, 1, 0, 0, 0);
        CHECK.due("a match that goes on is left", x.can(0, 1), 1);
        CHECK.due("it wins it", x.witness(0), 2);
        CHECK.due("it counts 1 to 0, 0 to 0, 0 to 1 alone", x.firsts(0, 1), 2);
        for (int k = 0; k < 3; k++) {
            x.event(0, 0, 0, 0, 0);
        }
        CHECK.due("it has ended", x.can(0, 1), 0);
        CHECK.due("firsts with nothing left", x.firsts(0, 1), 0);
        CHECK.due("firsts with nothing left", x.firsts(0, 0), 1);
    }

    private static void firstsOfTwo() {
        SportsHouse x = Setup.league("legs2;", 2, 0);
        CHECK.due("two matches", x.firsts(0, 0), 6);
        CHECK.due("of the other", x.firsts(0, 1), 6);
        x.walkOver(0, 0);
        // Club 1 has 3 points and 3 goals more.
        CHECK.due("behind", x.firsts(0, 0), 0);
        CHECK.due("ahead", x.firsts(0, 1), 3);
        SportsHouse y = Setup.league("legs2;walkover1;", 2, 0);
        y.walkOver(0, 0);
        // A win of 1 to 0 makes them level by all keys.
        CHECK.due("shared, too", y.firsts(0, 0), 1);
        CHECK.due("shared, too", y.firsts(0, 1), 3);
        y.deduct(0, 1, 1);
        CHECK.due("with what was deducted", y.firsts(0, 1), 2);
        SportsHouse z = Setup.league("legs4;", 2, 0);
        CHECK.due("four matches", z.firsts(0, 0), NONE);
        z.walkOver(0, 1);
        CHECK.due("three matches", z.firsts(0, 0) > 20 ? 1 : 0, 1);
    }

    private static void firstsOfMore() {
        SportsHouse x = Setup.league("order wins;points 1 1 1;", 3, 0);
        // 0: 1-2, 1: 2-0, 2: 0-1; by wins alone. Of 27 rows club 0 has most wins, or shares them:
        // with 2 wins 3 rows; with 1 win, when no other has 2: 12 less 2; with none, when all are drawn: 1.
        for (int club = 0; club < 3; club++) {
            CHECK.due("firsts(0, " + club + ")", x.firsts(0, club), 14);
        }
        SportsHouse y = Setup.league("order away;points 1 1 1;", 3, 0);
        // By goals away alone: club 0 is away in 1, club 1 in 2, club 2 in 0: with its own 9, without any 8.
        for (int club = 0; club < 3; club++) {
            CHECK.due("firsts by away, " + club, y.firsts(0, club), 17);
        }
    }

    private static void firstsWithCards() {
        SportsHouse x = Setup.begun("order fair;field2;points 1 1 1;", 2);
        x.event(0, 3, 0, 0, 0);
        CHECK.due("cards of a match that goes on do not count", x.firsts(0, 0), 3);
        for (int k = 0; k < 3; k++) {
            x.event(0, 0, 0, 0, 0);
        }
        CHECK.due("when it has ended they do", x.firsts(0, 0), 0);
        CHECK.due("for the other", x.firsts(0, 1), 1);
    }
}
