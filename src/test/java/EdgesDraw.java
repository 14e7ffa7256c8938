/** Promises 36 to 41 and section 8: draws, pots, ways, chances, balls. */
final class EdgesDraw {
    private static final long WHOLE = 1L << 31;

    private long seed;

    private EdgesDraw() {
    }

    static void tell(Edges e) {
        drawing(e);
        drawingAnew(e);
        potBounds(e);
        potStates(e);
        potRoom(e);
        ways(e);
        waysByLimit(e);
        chanceBounds(e);
        chances(e);
        ballStates(e);
        new EdgesDraw().seeds(e);
        new EdgesDraw().seedsThatWrap(e);
        new EdgesDraw().takenAgain(e);
        new EdgesDraw().goesOn(e);
        new EdgesDraw().leastPot(e);
        drawn(e);
    }

    private static void drawing(Edges e) {
        e.edge(36, "A DRAW has 1 to 4 GROUPS", """
            drawing 0 1 = OUTSIDE | drawing -1 1 = OUTSIDE | drawing 5 1 = OUTSIDE | drawing MIN 1 = OUTSIDE | drawing MAX 1 = OUTSIDE
            ways = STATE | drawing 1 1 = 1 | ways = 1 | drawing 4 1 = 1 | drawing 5 1 = OUTSIDE | ways = 1
            """);
        e.edge(36, "a LIMIT (1 to 3)", """
            drawing 1 0 = OUTSIDE | drawing 1 -1 = OUTSIDE | drawing 1 4 = OUTSIDE | drawing 1 MIN = OUTSIDE | drawing 1 MAX = OUTSIDE
            ways = STATE | drawing 1 1 = 1 | drawing 1 3 = 1 | drawing 0 0 = OUTSIDE
            """);
    }

    private static void drawingAnew(Edges e) {
        e.edge(36, "A new DRAW: 1.", """
            clubs 2 | drawing 1 1 = 1 | pot 0 0 = 1 | ball 0 true = 0 | drawn 0 = 0 | drawing 2 1 = 1 | drawn 0 = NONE | ways = 1
            chance 0 0 = UNKNOWN | pot 0 2 = 1 | pot 1 2 = 2 | ways = 2
            """);
        e.edge(36, "A new DRAW: 1.", """
            clubs 2 | drawing 2 1 = 1 | pot 0 0 = 1 | pot 1 0 = 2 | ball 0 true | drawing 2 1 = 1 | ball 0 true = STATE | ways = 1
            pot 1 0 = 1 | ways = 2 | drawing 2 1 = 1 | ways = 1 | ball 0 true = STATE
            """);
        // One that is refused leaves the draw as it is.
        e.edge(36, "OUTSIDE.", """
            clubs 2 | drawing 2 1 = 1 | pot 0 0 = 1 | drawing 0 1 = OUTSIDE | drawing 2 4 = OUTSIDE | ways = 2 | pot 0 0 = STATE
            """);
    }

    private static void potBounds(Edges e) {
        e.edge(37, "UNKNOWN; OUTSIDE; STATE: there is no DRAW", """
            pot 0 0 = UNKNOWN | club 0 0 | pot 0 0 = STATE | pot 1 0 = UNKNOWN | pot -1 0 = UNKNOWN | pot MIN 0 = UNKNOWN
            pot MAX 0 = UNKNOWN | pot 1 3 = UNKNOWN | pot 0 3 = OUTSIDE | pot 0 -1 = OUTSIDE | drawing 1 1 = 1 | pot 1 0 = UNKNOWN
            pot 0 0 = 1
            """);
        e.edge(37, "clubs in POTS 0 to 2", """
            clubs 2 | drawing 1 3 = 1 | pot 0 -1 = OUTSIDE | pot 0 3 = OUTSIDE | pot 0 MIN = OUTSIDE | pot 0 MAX = OUTSIDE | pot 0 0 = 1
            pot 1 2 = 1 | pot 1 3 = OUTSIDE
            """);
    }

    private static void potStates(Edges e) {
        e.edge(37, "the club is in it, or a ball was DRAWN", """
            clubs 3 | drawing 2 3 = 1 | pot 0 0 = 1 | pot 0 0 = STATE | pot 0 1 = STATE | pot 0 2 = STATE | pot 1 0 = 2
            ball 0 true | pot 2 1 = STATE | pot 0 0 = STATE | pot 2 3 = OUTSIDE | pot 3 0 = UNKNOWN
            """);
        // In another draw it may come again.
        e.edge(37, "A club comes into a POT of the DRAW: how many are in it.", """
            clubs 4 | drawing 2 3 = 1 | pot 3 1 = 1 | pot 0 1 = 2 | pot 1 0 = 1 | pot 2 0 = 2 | drawing 1 1 = 1 | pot 3 1 = 1
            """);
    }

    private static void potRoom(Edges e) {
        for (int groups = 1; groups <= 4; groups++) {
            e.edge(37, "as many in one as there are GROUPS at most", "clubs 12 | drawing " + groups + " 3 = 1 | " + groups
                + "* pot @ 1 = 1..\npot 11 1 = ROOM | pot 0 1 = STATE | pot 11 2 = 1 | pot 10 1 = ROOM");
        }
        e.edge(37, "STATE: there is no DRAW, the club is in it, or a ball was DRAWN; ROOM.", """
            clubs 3 | drawing 1 3 = 1 | pot 0 0 = 1 | pot 0 0 = STATE | pot 1 0 = ROOM | pot 1 3 = OUTSIDE | pot 3 0 = UNKNOWN
            ball 0 true = 0 | pot 1 0 = STATE
            """);
        e.edge(37, "as many in one as there are GROUPS at most", """
            clubs 12 | drawing 4 3 = 1 | 4* pot @ 0 = 1.. | pot 4 1 | pot 5 1 | pot 6 1 | pot 7 1 = 4 | pot 8 2 | pot 9 2 | pot 10 2
            pot 11 2 = 4 | ways = 13824
            """);
    }

    private static void ways(Edges e) {
        e.edge(38, "STATE: there is no DRAW.", "ways = STATE | club 0 0 | ways = STATE | drawing 4 3 = 1 | ways = 1");
        e.edge(38, "In how many ways the DRAW can go on (all be placed; 1 if all are).", """
            clubs 2 | drawing 1 3 = 1 | ways = 1 | pot 0 0 | ways = 1 | pot 1 1 | ways = 1 | ball 0 true = 0 | ways = 1
            ball 0 false = 8 | ways = 1
            """);
        e.edge(38, "in a GROUP one of a pot at most", """
            clubs 8 | drawing 4 3 = 1 | pot 0 0 | ways = 4 | pot 1 0 | ways = 12 | pot 2 0 | ways = 24 | pot 3 0 | ways = 24
            pot 4 1 | ways = 96
            """);
    }

    private static void waysByLimit(Edges e) {
        String one = "3* club 0 7 | club 0 0 | ";
        e.edge(38, "and LIMIT of a COUNTRY at most", one + """
            drawing 1 3 = 1 | pot 0 0 | pot 1 1 | pot 2 2 | ways = 1 | drawing 1 2 = 1 | pot 0 0 | pot 1 1 | ways = 1 | pot 2 2
            ways = 0
            """);
        e.edge(38, "and LIMIT of a COUNTRY at most", one + """
            drawing 1 1 = 1 | pot 0 0 | ways = 1 | pot 3 1 | ways = 1 | pot 1 2 | ways = 0 | ball 0 true = STATE
            """);
        // Three of a country in two groups: with 1 there is no way, with 2 none has all three.
        e.edge(38, "and LIMIT of a COUNTRY at most", one + """
            drawing 2 1 = 1 | pot 0 0 | pot 1 1 | ways = 2 | pot 2 2 | ways = 0 | drawing 2 2 = 1 | pot 0 0 | pot 1 1 | pot 2 2
            ways = 6 | drawing 2 3 = 1 | pot 0 0 | pot 1 1 | pot 2 2 | ways = 8
            """);
    }

    private static void chanceBounds(Edges e) {
        e.edge(39, "UNKNOWN: also one that is not in it; OUTSIDE.", """
            chance 0 0 = UNKNOWN | clubs 2 | chance 0 0 = UNKNOWN | chance 0 9 = UNKNOWN | drawing 2 3 = 1 | chance 0 0 = UNKNOWN
            pot 0 0 | chance 0 0 = 1 | chance 0 1 = 1 | chance 0 -1 = OUTSIDE | chance 0 2 = OUTSIDE | chance 0 MIN = OUTSIDE
            chance 0 MAX = OUTSIDE | chance 1 0 = UNKNOWN | chance 1 2 = UNKNOWN | chance 2 0 = UNKNOWN | chance -1 0 = UNKNOWN
            chance MIN 0 = UNKNOWN | chance MAX 0 = UNKNOWN | drawing 4 3 = 1 | chance 0 0 = UNKNOWN | pot 0 0 | chance 0 3 = 1
            chance 0 4 = OUTSIDE
            """);
    }

    private static void chances(Edges e) {
        e.edge(39, "In how many of these a club comes (or stands) in a GROUP.", """
            clubs 3 | drawing 3 3 = 1 | pot 0 0 | pot 1 0 | pot 2 1 | ways = 18 | 3* chance 0 @ = 6 | 3* chance 2 @ = 6 | ball 0 true
            ways = 6
            """);
        // With this seed club 0, the only one of the first pot, comes into group 0.
        e.edge(39, "(or stands)", "clubs 2 | drawing 2 1 = 1 | pot 0 0 | pot 1 1 | ball " + seedFor(0) + " true = 0\n" + """
            ways = 2 | chance 0 0 = 2 | chance 0 1 = 0 | chance 1 0 = 1 | chance 1 1 = 1 | ball 0 false | ways = 1 | chance 0 0 = 1
            chance 0 1 = 0
            """);
        e.edge(39, "In how many of these", """
            2* club 0 7 | drawing 1 1 = 1 | pot 0 0 | pot 1 1 | ways = 0 | chance 0 0 = 0 | chance 1 0 = 0 | drawn 0 = NONE
            """);
        // Both are of one country: where one is, the other can't be.
        e.edge(39, "In how many of these", """
            2* club 0 7 | drawing 2 1 = 1 | pot 0 0 | pot 1 1 | ways = 2 | chance 0 0 = 1 | chance 0 1 = 1 | chance 1 0 = 1
            chance 1 1 = 1
            """);
    }

    /** A seed with which the second number taken below 4 is in the first half or the second. */
    private static int seedFor(int group) {
        EdgesDraw numbers = new EdgesDraw();
        for (int start = 0; ; start++) {
            numbers.seed = start;
            numbers.below(1);
            if (numbers.below(4) / 2 == group) {
                return start;
            }
        }
    }

    private static void ballStates(Edges e) {
        e.edge(40, "STATE: there is no DRAW, all are DRAWN, or there are no ways.", """
            ball 0 true = STATE | clubs 1 | ball 0 false = STATE | drawing 1 1 = 1 | ball 0 true = STATE | pot 0 0 = 1
            ball 0 true = 0 | ball 0 true = STATE | ball 0 false = STATE | drawn 0 = 0
            """);
        e.edge(40, "or there are no ways", """
            2* club 0 7 | drawing 1 1 = 1 | pot 0 0 | pot 1 1 | ball 5 true = STATE | ball 5 false = STATE | drawn 0 = NONE
            drawn 1 = NONE
            """);
    }

    /** The next number below m, by whole numbers of which the lowest 32 bits are kept. */
    private int below(long m) {
        long v;
        do {
            seed = seed * 1664525 + 1013904223 & 0xffffffffL;
            v = seed >> 1;
        } while (v >= WHOLE - WHOLE % m);
        return (int) (v % m);
    }

    /** Four clubs without a limit that counts: the first ball tells club and group by two numbers. */
    private String firstBall(int start) {
        seed = start & 0xffffffffL;
        int club = below(4);
        int group = below(24) / 6;
        return "ball " + start + " true = " + (8 * club + group);
    }

    private void seeds(Edges e) {
        String four = "clubs 4 | drawing 4 3 = 1 | 4* pot @ 2\n";
        for (int start : new int[] {0, 1, 2, 3, 99, 1000, 65535, 123456789}) {
            e.edge(40, "TAKEN below m: s = s * 1664525 + 1013904223 (32 bits, wrapping", four + firstBall(start));
        }
        e.edge(40, "0 before one", four + firstBall(0).replace("ball 0 true", "ball 77 false"));
        e.edge(40, "(with first s is the seed told here)", four + firstBall(4242));
    }

    private void seedsThatWrap(Edges e) {
        String four = "clubs 4 | drawing 4 3 = 1 | 4* pot @ 0\n";
        for (int start : new int[] {-1, -2, Integer.MIN_VALUE, Integer.MAX_VALUE, Integer.MIN_VALUE + 1, -1000, 0x7fff0000}) {
            e.edge(40, "v = s shifted right by 1 without sign", four + firstBall(start));
        }
    }

    /** The seed whose next number is the one told. */
    private static int seedBefore(int next) {
        int inverse = 1;
        for (int k = 0; k < 5; k++) {
            inverse *= 2 - 1664525 * inverse;
        }
        return (next - 1013904223) * inverse;
    }

    private void takenAgain(Edges e) {
        // 2^31 by 3 leaves 2: the last two values, that s from -4 to -1 gives, are not taken.
        for (int next = -7; next < 0; next++) {
            int start = seedBefore(next);
            seed = start & 0xffffffffL;
            int club = below(3);
            int group = below(6) / 2;
            e.edge(40, "again, if v is not below 2^31 less the rest of 2^31 by m", "clubs 3 | drawing 3 3 = 1 | 3* pot @ 0"
                + "\nball " + start + " true = " + (8 * club + group));
        }
        // The same for the number that tells the group, below six ways.
        for (int next = -7; next < 0; next++) {
            int start = seedBefore(seedBefore(next));
            seed = start & 0xffffffffL;
            int club = below(2);
            int group = below(6) / 2;
            e.edge(40, "again, if v is not below 2^31 less the rest of 2^31 by m", "clubs 3 | drawing 3 3 = 1 | 2* pot @ 1"
                + "\nball " + start + " true = " + (8 * club + group));
        }
    }

    private void goesOn(Edges e) {
        seed = 31;
        StringBuilder script = new StringBuilder("clubs 3 | drawing 2 3 = 1 | pot 0 0 | pot 1 1 | pot 2 2\n");
        below(1);
        script.append("ball 31 true = ").append(below(8) / 4);
        below(1);
        script.append("\nball 99 false = ").append(8 + below(4) / 2);
        below(1);
        script.append("\nball 99 false = ").append(16 + below(2)).append(" | ball 5 true = STATE");
        script.append("\ndrawing 2 3 = 1 | pot 2 0");
        below(1);
        script.append("\nball 99 false = ").append(16 + below(2));
        e.edge(40, "and goes on, in further DRAWS, too", script.toString());
        // The seed told latest is begun anew with, also in the middle of a draw.
        seed = 7;
        below(1);
        int first = below(4) / 2;
        seed = 7;
        below(1);
        e.edge(40, "s is the seed told latest", "clubs 2 | drawing 2 3 = 1 | pot 0 0 | pot 1 1 | ball 7 true = " + first
            + " | ball 7 true = " + (8 + below(2)));
    }

    private void leastPot(Edges e) {
        // Pot 1 comes before pot 2, and in it the clubs by numbers, whatever the order in which they came.
        for (int start = 0; start < 6; start++) {
            seed = start;
            int club = 3 + below(3);
            int group = below(18) / 6;
            e.edge(40, "of the least pot with clubs that are not DRAWN, a club: with m of them the one that comes, by numbers, "
                + "behind so many as TAKEN below m tells", "clubs 6 | drawing 3 3 = 1 | pot 0 2 | pot 5 1 | pot 3 1 | pot 4 1"
                + "\nball " + start + " true = " + (8 * club + group) + " | drawn " + club + " = " + group);
        }
        // The least pot has one club, the next has two.
        for (int start = 0; start < 6; start++) {
            seed = start;
            below(1);
            e.edge(40, "of the least pot with clubs that are not DRAWN", "clubs 3 | drawing 2 3 = 1 | pot 0 1 | pot 1 2 | pot 2 2"
                + "\nball " + start + " true = " + below(4) / 2);
        }
        // Of one country with limit 1: the group of the second is what the first leaves.
        e.edge(40, "of the GROUPS in order, the first in which the ways so far and with it there are together above what TAKEN "
            + "below all ways tells", "2* club 0 7 | drawing 2 1 = 1 | pot 0 0 | pot 1 1 | ball " + seedForTwo(1)
            + " true = 1 | ways = 1 | chance 1 0 = 1 | chance 1 1 = 0 | ball 0 false = 8");
        // Those that are drawn count for the LIMIT in their group, by their own country.
        e.edge(40, "DRAWN ones stay.", "club 0 7 | club 0 6 | club 0 7 | club 0 6 | drawing 2 1 = 1 | pot 0 0 | pot 1 0 | pot 2 1"
            + " | pot 3 1\nways = 2 | ball 0 true | ways = 1 | 3* ball 0 false | ways = 1");
        e.edge(40, "8 times the club, and the GROUP", "clubs 12 | drawing 1 3 = 1 | pot 11 0 = 1 | ball 0 true = 88 | drawn 11 = 0");
    }

    /** A seed with which the second number taken, below 2, is the one told. */
    private int seedForTwo(int told) {
        for (int start = 0; ; start++) {
            seed = start;
            below(1);
            if (below(2) == told) {
                return start;
            }
        }
    }

    private static void drawn(Edges e) {
        e.edge(41, "The GROUP in which a club was DRAWN; NONE. UNKNOWN.", """
            drawn 0 = UNKNOWN | clubs 2 | drawn 0 = NONE | drawn 1 = NONE | drawn 2 = UNKNOWN | drawn -1 = UNKNOWN | drawn MIN = UNKNOWN
            drawn MAX = UNKNOWN | drawing 1 1 = 1 | drawn 0 = NONE | pot 0 0 | drawn 0 = NONE | ball 0 true = 0 | drawn 0 = 0
            drawn 1 = NONE | club 0 0 | drawn 2 = NONE | drawing 1 1 = 1 | drawn 0 = NONE
            """);
    }
}
