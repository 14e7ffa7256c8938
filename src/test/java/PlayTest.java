/** Promises 23 to 28: events by the laws of four sports, reviews, rows, states, fields. */
public final class PlayTest {
    private static final Check CHECK = new Check("PlayTest");
    private static final int NONE = SportsHouse.NONE;
    private static final int UNKNOWN = SportsHouse.UNKNOWN;
    private static final int OUTSIDE = SportsHouse.OUTSIDE;
    private static final int STATE = SportsHouse.STATE;

    public static void main(String[] args) {
        lawsOfFootball();
        football();
        sendingOff();
        substitutions();
        volleyball();
        volleyballToTheEnd();
        fifthSets();
        tennis();
        tennisTieBreak();
        retiring();
        baseballBases();
        baseballEnds();
        baseballWithoutEnd();
        reviews();
        reviewsThatEndOrGoOn();
        rows();
        refusals();
        CHECK.end();
    }

    private static void state(String name, SportsHouse x, int... want) {
        for (int what = 0; what < want.length; what++) {
            CHECK.due(name + ": state(0, " + what + ")", x.state(0, what), want[what]);
        }
    }

    private static void score(String name, SportsHouse x, int what, int home, int away) {
        CHECK.due(name + ": what it is", x.match(0, 5), what);
        CHECK.due(name + ": home", x.match(0, 6), home);
        CHECK.due(name + ": away", x.match(0, 7), away);
    }

    private static void field(String name, SportsHouse x, int side, int... want) {
        for (int k = 0; k < want.length; k++) {
            CHECK.due(name + ": onField(0, " + side + ", " + k + ")", x.onField(0, side, k), want[k]);
        }
        CHECK.due(name + ": no more", x.onField(0, side, want.length), NONE);
    }

    private static void lawsOfFootball() {
        SportsHouse x = Setup.begun("field2;subs1;", 4);
        int bad = Integer.MIN_VALUE;
        CHECK.due("no such kind", x.event(0, 6, 0, 0, 0), -12);
        CHECK.due("kind NONE", x.event(0, NONE, 0, 0, 0), -12);
        CHECK.due("no such side", x.event(0, 1, 2, 0, 0), -12);
        CHECK.due("not on the field", x.event(0, 1, 0, 2, 0), -14);
        CHECK.due("of the other side", x.event(0, 1, 0, 4, 0), -14);
        CHECK.due("no person", x.event(0, 3, 0, NONE, 0), -14);
        CHECK.due("not on the bench", x.event(0, 5, 0, 0, 1), -15);
        CHECK.due("on the other bench", x.event(0, 5, 0, 0, 6), -15);
        CHECK.due("law 4 comes before 5", x.event(0, 5, 0, 3, 3), -14);
        CHECK.due("a whistle needs nothing", x.event(0, 0, bad, bad, bad), 1);
        CHECK.due("a goal in the break", x.event(0, 1, 0, 0, 0), -13);
        CHECK.due("an own goal in the break", x.event(0, 2, 0, 0, 0), -13);
        CHECK.due("law 2 comes before 3", x.event(0, 1, 2, 0, 0), -12);
        CHECK.due("law 3 comes before 4", x.event(0, 1, 0, 99, 0), -13);
        CHECK.due("a yellow in the break", x.event(0, 3, 0, 0, bad), 2);
        CHECK.due("a substitution in the break", x.event(0, 5, 0, 0, 2), 3);
        CHECK.due("none is left", x.event(0, 5, 0, 1, 3), -16);
        CHECK.due("law 5 comes before 6", x.event(0, 5, 0, 1, 0), -15);
        CHECK.due("the other side has its own", x.event(0, 5, 1, 4, 6), 4);
        CHECK.due("who went off does not come back", x.event(0, 1, 0, 0, 0), -13);
        x.event(0, 0, 0, 0, 0);
        CHECK.due("who went off scores no more", x.event(0, 1, 0, 0, 0), -14);
        CHECK.due("who came on does", x.event(0, 1, 0, 2, 0), 6);
        x.event(0, 0, 0, 0, 0);
        CHECK.due("behind the end", x.event(0, 0, 0, 0, 0), -11);
        CHECK.due("law 1 comes before 2", x.event(0, 9, 9, 9, 9), -11);
        CHECK.due("rows", x.rows(0, 0), 7);
    }

    private static void football() {
        SportsHouse x = Setup.begun("field1;", 1);
        state("football", x, 0, 0, 0, 0, 0, 0, 0, 0);
        score("football", x, 1, 0, 0);
        x.event(0, 1, 0, 0, 0);
        x.event(0, 2, 0, 0, 0);
        x.event(0, 1, 1, 1, 0);
        score("goals", x, 1, 1, 2);
        x.event(0, 0, 0, 0, 0);
        state("the break", x, 1);
        x.event(0, 0, 0, 0, 0);
        state("the second half", x, 2);
        x.event(0, 2, 1, 1, 0);
        score("second half", x, 1, 2, 2);
        x.event(0, 0, 0, 0, 0);
        state("the end", x, 3, 0, 0, 0, 0, 0, 0, 0);
        score("the end", x, 2, 2, 2);
        field("the end", x, 0, 0);
    }

    private static void sendingOff() {
        SportsHouse x = Setup.begun("field5;walkover4;", 5);
        x.event(0, 1, 0, 0, 0);
        x.event(0, 1, 1, 5, 0);
        CHECK.due("a yellow", x.event(0, 3, 0, 1, 0), 3);
        field("one yellow", x, 0, 0, 1, 2, 3, 4);
        x.event(0, 3, 0, 2, 0);
        CHECK.due("its second", x.event(0, 3, 0, 1, 0), 5);
        field("sent off", x, 0, 0, 2, 3, 4);
        CHECK.due("who is sent off has no more", x.event(0, 3, 0, 1, 0), -14);
        x.event(0, 4, 0, 0, 0);
        field("red", x, 0, 2, 3, 4);
        score("three of five are enough", x, 1, 1, 1);
        x.event(0, 0, 0, 0, 0);
        CHECK.due("the third to go", x.event(0, 4, 0, 4, 0), 8);
        score("two of five are not", x, 2, 0, 4);
        state("the phase stays", x, 1);
        field("who is left", x, 0, 2, 3);
        SportsHouse y = Setup.begun("field1;", 2);
        y.event(0, 4, 1, 2, 0);
        score("none of one", y, 2, 3, 0);
        field("none is left", y, 1);
        SportsHouse z = Setup.begun("field2;", 2);
        z.event(0, 4, 1, 2, 0);
        score("one of two is half", z, 1, 0, 0);
    }

    private static void substitutions() {
        SportsHouse x = Setup.begun("field3;", 5);
        x.event(0, 5, 0, 1, 4);
        field("where the other stood", x, 0, 0, 4, 2);
        state("counted", x, 0, 0, 0, 0, 0, 0, 1, 0);
        CHECK.due("who has come on is on no bench", x.event(0, 5, 0, 0, 4), -15);
        CHECK.due("the new one can go, too", x.event(0, 5, 0, 4, 3), 2);
        CHECK.due("and does not come back", x.event(0, 5, 0, 0, 4), -15);
        field("again", x, 0, 0, 3, 2);
        CHECK.due("who went off is on no bench", x.event(0, 5, 0, 0, 1), -15);
        x.event(0, 5, 1, 5, 8);
        state("of each side", x, 0, 0, 0, 0, 0, 0, 2, 1);
        SportsHouse y = Setup.begun("field1;subs0;", 2);
        CHECK.due("subs 0", y.event(0, 5, 0, 0, 1), -16);
    }

    private static void volleyball() {
        SportsHouse x = Setup.begun("sport volleyball;field3;target3;subs1;", 4);
        state("at first", x, 0, 0, 0, 0, 0, 0, 0, 0);
        CHECK.due("no whistle", x.event(0, 0, 0, 0, 0), -12);
        CHECK.due("no yellow", x.event(0, 3, 0, 0, 0), -12);
        CHECK.due("no such side", x.event(0, 1, -1, 0, 0), -12);
        CHECK.due("a point needs no person", x.event(0, 1, 0, -7, -7), 1);
        field("who serves does not rotate", x, 0, 0, 1, 2);
        state("one point", x, 0, 1, 0, 0, 0, 0);
        x.event(0, 1, 1, 0, 0);
        field("who did not serve rotates", x, 1, 5, 6, 4);
        state("server", x, 0, 1, 1, 0, 0, 1);
        x.event(0, 5, 1, 6, 7);
        field("a substitution", x, 1, 5, 7, 4);
        CHECK.due("no second one", x.event(0, 5, 1, 5, 6), -15);
        Setup.events(x, 2, 1, 1, 0);
        state("a set of 3 to 1", x, 1, 0, 0, 0, 0, 1, 0, 1);
        score("sets", x, 1, 0, 1);
        field("server at its end", x, 1, 5, 7, 4);
        x.event(0, 1, 0, 0, 0);
        field("side 1 serves first in the second set", x, 0, 1, 2, 0);
        x.event(0, 1, 0, 0, 0);
        x.event(0, 1, 1, 0, 0);
        x.event(0, 1, 1, 0, 0);
        x.event(0, 1, 1, 0, 0);
        state("3 to 2 is no set", x, 1, 2, 3);
        x.event(0, 1, 0, 0, 0);
        x.event(0, 1, 0, 0, 0);
        state("nor is 4 to 3", x, 1, 4, 3, 0, 0, 0);
        x.event(0, 1, 0, 0, 0);
        state("5 to 3 is", x, 2, 0, 0, 0, 0, 0);
        score("one each", x, 1, 1, 1);
    }

    private static void volleyballToTheEnd() {
        SportsHouse x = Setup.begun("sport volleyball;field2;target6;", 2);
        for (int set = 0; set < 4; set++) {
            state("set " + set, x, set, 0, 0, 0, 0, set % 2);
            Setup.events(x, 6, 1, set % 2, 0);
        }
        score("four sets", x, 1, 2, 2);
        state("the fifth", x, 4, 0, 0, 0, 0, 0);
        // (3 * 6 + 4) / 5 is 4.
        Setup.events(x, 3, 1, 1, 0);
        score("three are too few", x, 1, 2, 2);
        Setup.events(x, 3, 1, 0, 0);
        CHECK.due("3 to 3", x.event(0, 1, 1, 0, 0), 31);
        score("4 to 3 is no set", x, 1, 2, 2);
        CHECK.due("5 to 3", x.event(0, 1, 1, 0, 0), 32);
        score("the end", x, 2, 2, 3);
        state("the end", x, 4, 0, 0, 0, 0, 1);
        CHECK.due("no more", x.event(0, 1, 1, 0, 0), -11);
        SportsHouse y = Setup.begun("sport volleyball;field2;target2;", 2);
        Setup.events(y, 4, 1, 1, 0);
        field("the first point rotated alone", y, 1, 3, 2);
        CHECK.due("its last row", Setup.events(y, 2, 1, 1, 0), 6);
        score("three sets to none", y, 2, 0, 3);
        state("who made the last point", y, 2, 0, 0, 0, 0, 1);
        field("and the first of the third set, that side 0 served", y, 1, 2, 3);
        SportsHouse z = Setup.begun("sport volleyball;field3;target3;", 3);
        Setup.events(z, 2, 1, 1, 0);
        field("rotated once", z, 1, 4, 5, 3);
        Setup.events(z, 1, 1, 0, 0);
        field("the other side, too", z, 0, 1, 2, 0);
        Setup.events(z, 1, 1, 1, 0);
        state("a set", z, 1, 0, 0, 0, 0, 1);
        field("its last point rotates, too", z, 1, 5, 3, 4);
    }

    private static void fifthSets() {
        int[] targets = {2, 3, 5, 6, 10, 25};
        int[] fifths = {2, 2, 3, 4, 6, 15};
        for (int k = 0; k < targets.length; k++) {
            SportsHouse x = Setup.begun("sport volleyball;field1;target" + targets[k] + ";", 1);
            for (int set = 0; set < 4; set++) {
                Setup.events(x, targets[k], 1, set / 2, 0);
            }
            Setup.events(x, fifths[k] - 1, 1, 1, 0);
            score("target " + targets[k] + ", one too few", x, 1, 2, 2);
            Setup.events(x, 1, 1, 1, 0);
            score("target " + targets[k], x, 2, 2, 3);
        }
    }

    private static void tennis() {
        SportsHouse x = Setup.begun("sport tennis;field1;target2;", 1);
        state("at first", x, 0, 0, 0, 0, 0, 0);
        CHECK.due("no substitution", x.event(0, 5, 0, 0, 0), -12);
        CHECK.due("no whistle", x.event(0, 0, 0, 0, 0), -12);
        CHECK.due("no such side", x.event(0, 6, 2, 0, 0), -12);
        Setup.events(x, 3, 1, 0, 0);
        Setup.events(x, 3, 1, 1, 0);
        state("3 to 3", x, 0, 3, 3, 0, 0, 0);
        x.event(0, 1, 1, 0, 0);
        state("3 to 4", x, 0, 3, 4, 0, 0, 0);
        x.event(0, 1, 1, 0, 0);
        state("a game", x, 0, 0, 0, 0, 1, 1);
        Setup.events(x, 4, 1, 1, 0);
        state("a set of 0 to 2", x, 1, 0, 0, 0, 0, 0);
        score("sets", x, 1, 0, 1);
        Setup.events(x, 4, 1, 0, 0);
        state("1 to 0", x, 1, 0, 0, 1, 0, 1);
        Setup.events(x, 4, 1, 1, 0);
        state("1 to 1", x, 1, 0, 0, 1, 1, 0);
        Setup.events(x, 4, 1, 0, 0);
        state("2 to 1 is no set", x, 1, 0, 0, 2, 1, 1);
        Setup.events(x, 4, 1, 0, 0);
        state("3 to 1 is", x, 2, 0, 0, 0, 0, 0);
        score("one each", x, 1, 1, 1);
        Setup.events(x, 7, 1, 0, 0);
        state("nearly", x, 2, 3, 0, 1, 0, 1);
        Setup.events(x, 1, 1, 0, 0);
        score("the end", x, 2, 2, 1);
        state("who served the last game", x, 2, 0, 0, 0, 0, 1);
    }

    private static void tennisTieBreak() {
        SportsHouse x = Setup.begun("sport tennis;field1;target2;", 1);
        for (int game = 0; game < 4; game++) {
            Setup.events(x, 4, 1, game % 2, 0);
        }
        state("2 to 2", x, 0, 0, 0, 2, 2, 0);
        Setup.events(x, 6, 1, 0, 0);
        state("six points are too few", x, 0, 6, 0, 2, 2, 0);
        Setup.events(x, 6, 1, 1, 0);
        Setup.events(x, 1, 1, 0, 0);
        state("7 to 6 is no game", x, 0, 7, 6, 2, 2, 0);
        Setup.events(x, 1, 1, 0, 0);
        state("8 to 6 is game and set", x, 1, 0, 0, 0, 0, 1);
        score("3 to 2", x, 1, 1, 0);
        SportsHouse y = Setup.begun("sport tennis;field1;target2;", 1);
        for (int game = 0; game < 4; game++) {
            Setup.events(y, 4, 1, game % 2, 0);
        }
        Setup.events(y, 7, 1, 1, 0);
        score("7 to 0 is enough", y, 1, 0, 1);
        Setup.events(y, 4, 1, 0, 0);
        Setup.events(y, 8, 1, 1, 0);
        state("1 to 2", y, 1, 0, 0, 1, 2, 0);
        Setup.events(y, 4, 1, 0, 0);
        state("four points are enough again", y, 1, 0, 0, 2, 2, 1);
        SportsHouse z = Setup.begun("sport tennis;field1;target2;", 1);
        Setup.events(z, 4, 1, 1, 0);
        Setup.events(z, 8, 1, 0, 0);
        state("2 to 1", z, 0, 0, 0, 2, 1, 1);
        Setup.events(z, 4, 1, 1, 0);
        state("2 to 2", z, 0, 0, 0, 2, 2, 0);
    }

    private static void retiring() {
        SportsHouse x = Setup.begun("sport tennis;field1;target2;", 1);
        Setup.events(x, 13, 1, 0, 0);
        state("before", x, 1, 1, 0, 1, 0, 1);
        CHECK.due("side 0 retires", x.event(0, 6, 0, 0, 0), 14);
        score("retired", x, 2, 1, 2);
        state("all is left as it was", x, 1, 1, 0, 1, 0, 1);
        CHECK.due("no more", x.event(0, 1, 0, 0, 0), -11);
    }

    private static void baseballBases() {
        SportsHouse x = Setup.begun("sport baseball;field1;target2;", 1);
        state("at first", x, 0, 0, 0, 0, 0, 1, 0, 0);
        CHECK.due("side 0 does not bat", x.event(0, 1, 0, 0, 1), -13);
        CHECK.due("law 3 comes before 7", x.event(0, 1, 0, 0, 9), -13);
        CHECK.due("0 bases", x.event(0, 1, 1, 0, 0), -17);
        CHECK.due("5 bases", x.event(0, 1, 1, 0, 5), -17);
        CHECK.due("no such kind", x.event(0, 5, 1, 0, 0), -12);
        CHECK.due("nor 0", x.event(0, 0, 1, 0, 0), -12);
        x.event(0, 1, 1, 0, 1);
        state("on the first", x, 0, 0, 0, 0, 1, 1);
        x.event(0, 1, 1, 0, 2);
        state("on the second and third", x, 0, 0, 0, 0, 6, 1);
        x.event(0, 1, 1, 0, 1);
        state("one came home", x, 0, 0, 0, 0, 5, 1);
        score("one run", x, 1, 0, 1);
        x.event(0, 1, 1, 0, 3);
        state("a hit of three", x, 0, 0, 0, 0, 4, 1);
        score("three runs", x, 1, 0, 3);
        x.event(0, 1, 1, 0, 4);
        state("a hit of four", x, 0, 0, 0, 0, 0, 1);
        score("five runs", x, 1, 0, 5);
        Setup.events(x, 3, 2, 1, 0);
        Setup.events(x, 2, 3, 1, 0);
        state("three balls, two strikes", x, 0, 3, 2, 0, 0, 1);
        Setup.events(x, 1, 2, 1, 0);
        state("a walk", x, 0, 0, 0, 0, 1, 1);
        Setup.events(x, 4, 2, 1, 0);
        state("the first is pushed", x, 0, 0, 0, 0, 3, 1);
        Setup.events(x, 8, 2, 1, 0);
        state("all bases", x, 0, 0, 0, 0, 7, 1);
        score("a run by a walk", x, 1, 0, 6);
        Setup.events(x, 1, 2, 1, 0);
        Setup.events(x, 3, 3, 1, 0);
        state("three strikes are an out", x, 0, 0, 0, 1, 7, 1);
        Setup.events(x, 1, 3, 1, 0);
        Setup.events(x, 1, 4, 1, 0);
        state("an out", x, 0, 0, 0, 2, 7, 1);
        Setup.events(x, 1, 4, 1, 0);
        state("the other side bats", x, 0, 0, 0, 0, 0, 0);
        CHECK.due("side 1 does not bat", x.event(0, 4, 1, 0, 0), -13);
        SportsHouse y = Setup.begun("sport baseball;field1;target2;", 1);
        y.event(0, 1, 1, 0, 2);
        Setup.events(y, 4, 2, 1, 0);
        state("the second is not pushed", y, 0, 0, 0, 0, 3, 1);
        y.event(0, 1, 1, 0, 2);
        state("home and third", y, 0, 0, 0, 0, 6, 1);
        Setup.events(y, 4, 2, 1, 0);
        state("neither is pushed", y, 0, 0, 0, 0, 7, 1);
        score("one run", y, 1, 0, 1);
    }

    private static void baseballEnds() {
        SportsHouse x = Setup.begun("sport baseball;field1;target2;", 1);
        Setup.events(x, 3, 4, 1, 0);
        x.event(0, 1, 0, 0, 4);
        score("ahead in the first inning", x, 1, 1, 0);
        Setup.events(x, 3, 4, 0, 0);
        state("the last inning", x, 1, 0, 0, 0, 0, 1);
        x.event(0, 1, 1, 0, 1);
        Setup.events(x, 2, 4, 1, 0);
        score("two outs", x, 1, 1, 0);
        Setup.events(x, 1, 4, 1, 0);
        score("behind side 1's half", x, 2, 1, 0);
        state("who batted last", x, 1, 0, 0, 0, 0, 1);
        SportsHouse y = Setup.begun("sport baseball;field1;target2;", 1);
        Setup.events(y, 3, 4, 1, 0);
        Setup.events(y, 3, 4, 0, 0);
        y.event(0, 1, 1, 0, 4);
        Setup.events(y, 3, 4, 1, 0);
        y.event(0, 4, 0, 0, 0);
        y.event(0, 1, 0, 0, 3);
        y.event(0, 1, 0, 0, 1);
        score("level", y, 1, 1, 1);
        y.event(0, 1, 0, 0, 2);
        score("not ahead yet", y, 1, 1, 1);
        y.event(0, 1, 0, 0, 1);
        score("side 0 goes ahead", y, 2, 2, 1);
        state("outs and bases stay", y, 1, 0, 0, 1, 5, 0);
        SportsHouse z = Setup.begun("sport baseball;field1;target2;", 1);
        z.event(0, 1, 1, 0, 4);
        for (int half = 0; half < 4; half++) {
            score("half " + half, z, 1, 0, 1);
            Setup.events(z, 3, 4, 1 - half % 2, 0);
        }
        score("at an inning's end", z, 2, 0, 1);
        state("at an inning's end", z, 1, 0, 0, 0, 0, 0);
    }

    private static void baseballWithoutEnd() {
        SportsHouse x = Setup.begun("sport baseball;field1;target2;", 1);
        for (int inning = 0; inning < 22; inning++) {
            state("inning " + inning, x, inning, 0, 0, 0, 0, 1);
            Setup.events(x, 3, 4, 1, 0);
            score("inning " + inning, x, 1, 0, 0);
            Setup.events(x, 3, 4, 0, 0);
        }
        score("the 20th behind the target", x, 2, 0, 0);
        state("the last one", x, 21, 0, 0, 0, 0, 0);
    }

    private static void reviews() {
        SportsHouse x = Setup.begun("field2;subs1;", 4);
        x.event(0, 1, 0, 0, 0);
        x.event(0, 5, 0, 0, 2);
        x.event(0, 1, 0, 2, 0);
        x.event(0, 1, 1, 4, 0);
        score("before", x, 1, 2, 1);
        CHECK.due("no such kind", x.review(0, 0, 6, 0, 0, 0), -12);
        CHECK.due("no such side", x.review(0, 0, 1, 2, 0, 0), -12);
        CHECK.due("the same", x.review(0, 0, 1, 0, 0, 0), -20);
        CHECK.due("row -1", x.review(0, -1, 1, 0, 0, 0), UNKNOWN);
        CHECK.due("row 4", x.review(0, 4, 9, 0, 0, 0), UNKNOWN);
        CHECK.due("match 1", x.review(1, 0, 1, 0, 0, 0), UNKNOWN);
        CHECK.due("another person's goal", x.review(0, 0, 1, 0, 1, 0), 0);
        score("as before", x, 1, 2, 1);
        CHECK.due("another number makes another event", x.review(0, 0, 1, 0, 1, 7), 0);
        CHECK.due("the substitution was a yellow", x.review(0, 1, 3, 0, 0, 0), 1);
        score("the goal of who did not come on is aside", x, 1, 1, 1);
        CHECK.due("rows", x.rows(0, 0), 3);
        CHECK.due("aside", x.rows(0, 1), 1);
        field("the field", x, 0, 0, 1);
        state("none was changed", x, 0, 0, 0, 0, 0, 0, 0, 0);
        CHECK.due("a new event that is barred", x.review(0, 2, 1, 1, 99, 5), 1);
        CHECK.due("row 2 is gone", x.row(0, 2, 0), UNKNOWN);
        int[] first = {1, 0, 2, 0};
        int[] second = {1, 1, 99, 5};
        for (int what = 4; what < 8; what++) {
            CHECK.due("row(0, 0, " + what + ")", x.row(0, 0, what), first[what - 4]);
            CHECK.due("row(0, 1, " + what + ")", x.row(0, 1, what), second[what - 4]);
        }
        CHECK.due("taken out", x.review(0, 0, NONE, 7, 7, 7), 0);
        CHECK.due("rows", x.rows(0, 0), 1);
        CHECK.due("taken out ones are not aside", x.rows(0, 1), 2);
        CHECK.due("what was behind it", x.row(0, 0, 0), 3);
        score("no goals", x, 1, 0, 0);
        CHECK.due("all rows of all matches", x.count(6), 4);
        SportsHouse y = Setup.begun("sport baseball;field1;target2;", 1);
        y.event(0, 1, 1, 0, 1);
        CHECK.due("law 7 by itself", y.review(0, 0, 1, 1, 0, 5), -17);
        CHECK.due("law 2 by itself", y.review(0, 0, 9, 1, 0, 5), -12);
        CHECK.due("law 3 is asked when it is run", y.review(0, 0, 1, 0, 0, 1), 1);
        CHECK.due("nothing is left", y.rows(0, 0), 0);
        state("from the beginning", y, 0, 0, 0, 0, 0, 1);
    }

    private static void reviewsThatEndOrGoOn() {
        SportsHouse x = Setup.begun("field2;", 2);
        x.event(0, 0, 0, 0, 0);
        x.event(0, 0, 0, 0, 0);
        x.event(0, 0, 0, 0, 0);
        score("ended", x, 2, 0, 0);
        CHECK.due("a whistle that was none", x.review(0, 1, 3, 0, 0, 0), 0);
        score("it goes on", x, 1, 0, 0);
        state("the second half", x, 2);
        CHECK.due("an event", x.event(0, 0, 0, 0, 0), 4);
        CHECK.due("ended again", x.event(0, 0, 0, 0, 0), -11);
        SportsHouse y = Setup.begun("field1;", 1);
        y.event(0, 1, 0, 0, 0);
        y.event(0, 1, 0, 0, 0);
        y.event(0, 0, 0, 0, 0);
        CHECK.due("the first goal was a red", y.review(0, 0, 4, 0, 0, 0), 2);
        score("it has ended", y, 2, 0, 3);
        CHECK.due("those behind the end are aside", y.rows(0, 1), 2);
        CHECK.due("in their order", y.row(0, 0, 4), 1);
        CHECK.due("the whistle", y.row(0, 1, 4), 0);
        CHECK.due("a goal after all", y.review(0, 0, 1, 0, 0, 0), 0);
        score("it goes on", y, 1, 1, 0);
        CHECK.due("those aside stay so for good", y.rows(0, 0), 1);
        CHECK.due("aside", y.rows(0, 1), 2);
    }

    private static void rows() {
        SportsHouse x = Setup.begun("field1;", 1);
        CHECK.due("rows(0, 0)", x.rows(0, 0), 0);
        CHECK.due("row(0, 0, 0)", x.row(0, 0, 0), UNKNOWN);
        x.event(0, 0, -9, 77, Integer.MAX_VALUE);
        int[] want = {0, -9, 77, Integer.MAX_VALUE};
        for (int what = 0; what < 4; what++) {
            CHECK.due("row(0, 0, " + what + ")", x.row(0, 0, what), want[what]);
        }
        CHECK.due("none is aside", x.row(0, 0, 4), UNKNOWN);
        CHECK.due("row(0, 1, 0)", x.row(0, 1, 0), UNKNOWN);
        CHECK.due("row(0, -1, 0)", x.row(0, -1, 0), UNKNOWN);
        CHECK.due("row(1, 0, 0)", x.row(1, 0, 0), UNKNOWN);
        CHECK.due("row(0, 0, -1)", x.row(0, 0, -1), OUTSIDE);
        CHECK.due("row(0, 0, 8)", x.row(0, 0, 8), OUTSIDE);
        CHECK.due("rows(0, 2)", x.rows(0, 2), OUTSIDE);
        CHECK.due("rows(0, -1)", x.rows(0, -1), OUTSIDE);
        CHECK.due("rows(1, 2)", x.rows(1, 2), UNKNOWN);
        for (int k = 1; k < 60; k++) {
            CHECK.due("event " + k, x.event(0, 3, 2, k, 0), -12);
        }
        x.event(0, 0, 0, 0, 0);
        for (int k = 2; k < 60; k++) {
            CHECK.due("goal " + k, x.event(0, 1, k % 2, k % 2, k), k + 1);
        }
        for (int k = 2; k < 60; k++) {
            CHECK.due("row " + k, x.row(0, k, 3), k);
        }
        CHECK.due("the second half's beginning is gone", x.review(0, 1, NONE, 0, 0, 0), 58);
        for (int k = 2; k < 60; k++) {
            CHECK.due("aside " + k, x.row(0, k - 2, 7), k);
        }
        CHECK.due("one row is left", x.rows(0, 0), 1);
    }

    private static void refusals() {
        SportsHouse x = Setup.league("field1;", 2, 1);
        CHECK.due("event(1, ..)", x.event(1, 0, 0, 0, 0), UNKNOWN);
        CHECK.due("event(-1, ..)", x.event(-1, 0, 0, 0, 0), UNKNOWN);
        CHECK.due("an event before it begins", x.event(0, 0, 0, 0, 0), -11);
        CHECK.due("a review before it begins", x.review(0, 0, 0, 0, 0, 0), UNKNOWN);
        CHECK.due("state(1, 0)", x.state(1, 9), UNKNOWN);
        CHECK.due("state(0, 8)", x.state(0, 8), OUTSIDE);
        CHECK.due("state(0, -1)", x.state(0, -1), OUTSIDE);
        CHECK.due("it has not begun", x.state(0, 0), STATE);
        CHECK.due("onField(1, 0, 0)", x.onField(1, 2, 0), UNKNOWN);
        CHECK.due("onField(0, 2, 0)", x.onField(0, 2, 0), OUTSIDE);
        CHECK.due("onField(0, -1, 0)", x.onField(0, -1, 0), OUTSIDE);
        CHECK.due("it has not begun", x.onField(0, 0, 0), NONE);
        x.lineUp(0, 0, 0);
        CHECK.due("on a sheet, not on the field", x.onField(0, 0, 0), NONE);
        x.lineUp(1, 0, 1);
        x.start(0);
        CHECK.due("on the field", x.onField(0, 1, 0), 1);
        CHECK.due("onField(0, 0, -1)", x.onField(0, 0, -1), NONE);
        CHECK.due("onField(0, 0, 1)", x.onField(0, 0, 1), NONE);
    }
}
