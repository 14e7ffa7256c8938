/** Promises 36 to 41: draws, pots, ways, chances, balls. */
public final class DrawTest {
    private static final Check CHECK = new Check("DrawTest");
    private static final int NONE = SportsHouse.NONE;
    private static final int UNKNOWN = SportsHouse.UNKNOWN;
    private static final int OUTSIDE = SportsHouse.OUTSIDE;
    private static final int STATE = SportsHouse.STATE;
    private static final int ROOM = SportsHouse.ROOM;

    private int seed;

    public static void main(String[] args) {
        refusals();
        waysWithoutLimit();
        waysWithLimit();
        noWays();
        new DrawTest().balls();
        new DrawTest().ballsByNumbers();
        new DrawTest().seedsGoOn();
        new DrawTest().numbersThatAreTakenAgain();
        CHECK.end();
    }

    /** Clubs in groups of three with a country each. */
    private static SportsHouse clubs(int n) {
        SportsHouse x = new SportsHouse();
        for (int k = 0; k < n; k++) {
            x.club(0, k / 3);
        }
        return x;
    }

    private static void refusals() {
        SportsHouse x = clubs(6);
        CHECK.due("pot without a draw", x.pot(0, 0), STATE);
        CHECK.due("pot(6, 0)", x.pot(6, 0), UNKNOWN);
        CHECK.due("OUTSIDE comes before STATE", x.pot(0, 3), OUTSIDE);
        CHECK.due("ways without a draw", x.ways(), STATE);
        CHECK.due("chance without a draw", x.chance(0, 0), UNKNOWN);
        CHECK.due("ball without a draw", x.ball(0, false), STATE);
        CHECK.due("drawn without a draw", x.drawn(0), NONE);
        CHECK.due("drawn(6)", x.drawn(6), UNKNOWN);
        CHECK.due("drawn(-1)", x.drawn(-1), UNKNOWN);
        int[][] bad = {{0, 1}, {5, 1}, {1, 0}, {1, 4}, {-1, -1}, {Integer.MAX_VALUE, 1}};
        for (int[] b : bad) {
            CHECK.due("drawing(" + b[0] + ", " + b[1] + ")", x.drawing(b[0], b[1]), OUTSIDE);
        }
        CHECK.due("still none", x.ways(), STATE);
        CHECK.due("drawing(2, 3)", x.drawing(2, 3), 1);
        CHECK.due("all of none are placed", x.ways(), 1);
        CHECK.due("a ball of none", x.ball(0, false), STATE);
        CHECK.due("pot(0, -1)", x.pot(0, -1), OUTSIDE);
        CHECK.due("pot(0, 3)", x.pot(0, 3), OUTSIDE);
        CHECK.due("pot(-1, 3)", x.pot(-1, 3), UNKNOWN);
        CHECK.due("pot(0, 1)", x.pot(0, 1), 1);
        CHECK.due("again", x.pot(0, 1), STATE);
        CHECK.due("in another", x.pot(0, 2), STATE);
        CHECK.due("pot(1, 1)", x.pot(1, 1), 2);
        CHECK.due("the third of two groups", x.pot(2, 1), ROOM);
        CHECK.due("STATE comes before ROOM", x.pot(1, 1), STATE);
        CHECK.due("pot(2, 2)", x.pot(2, 2), 1);
        CHECK.due("chance(6, 0)", x.chance(6, 0), UNKNOWN);
        CHECK.due("chance(5, 9), not in it", x.chance(5, 9), UNKNOWN);
        CHECK.due("chance(0, 2)", x.chance(0, 2), OUTSIDE);
        CHECK.due("chance(0, -1)", x.chance(0, -1), OUTSIDE);
        CHECK.due("drawn(0), not yet", x.drawn(0), NONE);
        CHECK.due("drawn(5), not in it", x.drawn(5), NONE);
        x.ball(7, true);
        CHECK.due("a ball was drawn", x.pot(3, 0), STATE);
        CHECK.due("OUTSIDE all the same", x.pot(3, 3), OUTSIDE);
        x.drawing(1, 1);
        CHECK.due("a new one", x.pot(0, 0), 1);
        CHECK.due("none is drawn", x.drawn(1), NONE);
    }

    private static void waysWithoutLimit() {
        SportsHouse x = clubs(12);
        x.drawing(4, 3);
        int[] want = {4, 12, 24, 24, 96, 288, 576, 576, 2304, 6912, 13824, 13824};
        for (int club = 0; club < 12; club++) {
            x.pot(club, club / 4);
            CHECK.due("ways with " + (club + 1), x.ways(), want[club]);
        }
        for (int club = 0; club < 12; club++) {
            for (int group = 0; group < 4; group++) {
                CHECK.due("chance(" + club + ", " + group + ")", x.chance(club, group), 3456);
            }
        }
    }

    private static void waysWithLimit() {
        // Clubs 0 and 3 (countries 0 and 1) in pot 0, 1 and 4 in pot 1: those of one country keep apart.
        SportsHouse x = clubs(6);
        x.drawing(2, 1);
        x.pot(0, 0);
        x.pot(3, 0);
        x.pot(1, 1);
        x.pot(4, 1);
        CHECK.due("limit 1", x.ways(), 2);
        CHECK.due("chance(1, 0)", x.chance(1, 0), 1);
        x.drawing(2, 2);
        x.pot(0, 0);
        x.pot(1, 1);
        x.pot(2, 2);
        CHECK.due("limit 2: not all three together", x.ways(), 6);
        CHECK.due("chance(2, 1)", x.chance(2, 1), 3);
        x.drawing(2, 3);
        x.pot(0, 0);
        x.pot(1, 1);
        x.pot(2, 2);
        CHECK.due("limit 3", x.ways(), 8);
        x.drawing(3, 1);
        x.pot(0, 0);
        x.pot(1, 1);
        x.pot(3, 1);
        CHECK.due("three groups", x.ways(), 3 * (2 * 2));
        CHECK.due("chance(3, 0)", x.chance(3, 0), 4);
        CHECK.due("chance(1, 2)", x.chance(1, 2), 4);
    }

    private static void noWays() {
        SportsHouse x = clubs(3);
        x.drawing(2, 1);
        x.pot(0, 0);
        x.pot(1, 1);
        x.pot(2, 2);
        CHECK.due("three of a country in two groups", x.ways(), 0);
        CHECK.due("chance", x.chance(0, 0), 0);
        CHECK.due("no ball", x.ball(5, true), STATE);
        CHECK.due("none is drawn", x.drawn(0), NONE);
        x.drawing(1, 1);
        x.pot(0, 2);
        CHECK.due("another draw, with the seed 0", x.ball(9, false), 0);
        CHECK.due("all are drawn", x.ball(9, false), STATE);
        CHECK.due("one way", x.ways(), 1);
        CHECK.due("it stands there", x.chance(0, 0), 1);
    }

    private int takenBelow(int m) {
        long whole = 1L << 31;
        int v;
        do {
            seed = seed * 1664525 + 1013904223;
            v = seed >>> 1;
        } while (v >= whole - whole % m);
        return v % m;
    }

    private void balls() {
        for (int start : new int[] {0, 1, -1, 12345, Integer.MIN_VALUE}) {
            SportsHouse x = clubs(12);
            x.drawing(4, 1);
            for (int club = 0; club < 12; club++) {
                x.pot(club, club % 3);
            }
            seed = start;
            for (int n = 0; n < 12; n++) {
                drawOne(x, start, n);
            }
            CHECK.due("all are drawn", x.ball(start, true), STATE);
            CHECK.due("one way", x.ways(), 1);
        }
    }

    /** Works out by ways and chances what the ball must be. */
    private void drawOne(SportsHouse x, int start, int n) {
        int p = n / 4;
        int waiting = 4 - n % 4;
        int before = takenBelow(waiting);
        int club = p;
        while (x.drawn(club) != NONE || before > 0) {
            before -= x.drawn(club) == NONE ? 1 : 0;
            club += 3;
        }
        int told = takenBelow(x.ways());
        int group = 0;
        int sum = x.chance(club, 0);
        while (sum <= told) {
            group++;
            sum += x.chance(club, group);
        }
        int waysThen = x.chance(club, group);
        CHECK.due("ball " + n + " of " + start, x.ball(start, n == 0), 8 * club + group);
        CHECK.due("drawn", x.drawn(club), group);
        CHECK.due("the ways that are left", x.ways(), waysThen);
        CHECK.due("it stands there", x.chance(club, group), waysThen);
        CHECK.due("and nowhere else", x.chance(club, (group + 1) % 4), 0);
    }

    private void ballsByNumbers() {
        // The pot was filled from the last number to the first, which makes no difference.
        SportsHouse x = clubs(4);
        x.drawing(4, 3);
        for (int club = 3; club >= 0; club--) {
            x.pot(club, 1);
        }
        seed = 4;
        int club = takenBelow(4);
        int group = takenBelow(24) / 6;
        CHECK.due("by numbers", x.ball(4, true), 8 * club + group);
    }

    /** The seed whose next number is the one told. */
    private static int seedBefore(int next) {
        int inverse = 1;
        for (int k = 0; k < 5; k++) {
            inverse *= 2 - 1664525 * inverse;
        }
        return (next - 1013904223) * inverse;
    }

    private void numbersThatAreTakenAgain() {
        // 2^31 by 3 leaves 2: of the values the last two are not used.
        for (int next = -8; next < 0; next++) {
            SportsHouse x = clubs(3);
            x.drawing(3, 3);
            for (int club = 0; club < 3; club++) {
                x.pot(club, 0);
            }
            int start = seedBefore(next);
            seed = start;
            int club = takenBelow(3);
            int first = next;
            CHECK.due("again below " + next, seed == first ? 1 : 0, next < -4 ? 1 : 0);
            int group = takenBelow(6) / 2;
            CHECK.due("ball behind " + next, x.ball(start, true), 8 * club + group);
        }
        // The same for the second number, that tells the group: 2^31 by 6 leaves 2.
        for (int next = -8; next < 0; next++) {
            SportsHouse x = clubs(3);
            x.drawing(3, 3);
            x.pot(0, 1);
            x.pot(1, 1);
            int start = seedBefore(seedBefore(next));
            seed = start;
            int club = takenBelow(2);
            int group = takenBelow(6) / 2;
            CHECK.due("second number " + next, x.ball(start, true), 8 * club + group);
        }
    }

    private void seedsGoOn() {
        SportsHouse x = clubs(2);
        x.drawing(2, 3);
        x.pot(0, 0);
        x.pot(1, 1);
        seed = 99;
        takenBelow(1);
        CHECK.due("the first", x.ball(99, true), takenBelow(4) / 2);
        takenBelow(1);
        CHECK.due("the seed goes on", x.ball(99, false), 8 + takenBelow(2));
        CHECK.due("a refused one", x.ball(1, true), STATE);
        x.drawing(2, 3);
        x.pot(1, 0);
        takenBelow(1);
        CHECK.due("in further draws, too", x.ball(99, false), 8 + takenBelow(2));
    }
}
