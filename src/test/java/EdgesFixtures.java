/** Promises 12 to 18 and section 3: entering, planning, matches, breaks, postponing, deducting. */
final class EdgesFixtures {
    private EdgesFixtures() {
    }

    static void tell(Edges e) {
        entering(e);
        enteringInOrder(e);
        planningDays(e);
        planningStates(e);
        planningRoom(e);
        circles(e);
        circlesOfMore(e);
        legs(e);
        matches(e);
        scores(e);
        breaks(e);
        postponingBounds(e);
        postponingStates(e);
        standingAgainst(e);
        standingAgainstByStadium(e);
        standingAgainstByState(e);
        goingBehind(e);
        nothingIsDone(e);
        moved(e);
        movedBefore(e);
        deducting(e);
    }

    private static void entering(Edges e) {
        e.edge(12, "UNKNOWN; STATE: it has, or it is PLANNED.", """
            enter 0 0 = UNKNOWN | competition | enter 0 0 = UNKNOWN | club 0 0 | enter 1 0 = UNKNOWN | enter 0 1 = UNKNOWN
            enter -1 0 = UNKNOWN | enter 0 -1 = UNKNOWN | enter MIN 0 = UNKNOWN | enter 0 MAX = UNKNOWN | enter 0 0 = 1
            enter 0 0 = STATE
            """);
        e.edge(12, "is ENTERED by clubs, each once, until it is PLANNED", """
            competition | clubs 4 | enter 0 0 = 1 | enter 0 0 = STATE | enter 0 1 = 2 | enter 0 0 = STATE | enter 0 2 = 3
            plan 0 0 = 0 | enter 0 3 = STATE | enter 0 0 = STATE | enter 0 4 = UNKNOWN | count 5 = 3
            """);
        // A plan that is refused leaves it open.
        e.edge(12, "until it is PLANNED", """
            competition | clubs 2 | enter 0 0 = 1 | plan 0 0 = STATE | enter 0 1 = 2 | plan 0 0 = 0
            """);
        e.edge(12, "A club ENTERS a competition: how many there are.", """
            4* competition | clubs 12 | 12* enter 0 @ = 1.. | enter 0 11 = STATE | 12* enter 3 @ = 1.. | enter 2 11 = 1
            table 0 0 11 0 = 0 | table 3 0 11 0 = 0 | table 2 0 11 0 = 0 | table 1 0 11 0 = STATE
            """);
    }

    private static void enteringInOrder(Edges e) {
        e.edge(12, "as PLACES 0 to n - 1 in the order in which they entered", """
            rules every1; = 0 | clubs 4 | enter 0 2 | enter 0 0 | enter 0 3 | enter 0 1 | plan 0 0 = 0
            match 0 2 = 2 | match 0 3 = 1 | match 1 2 = 0 | match 1 3 = 3 | standing 0 0 0 = 2 | standing 0 0 3 = 1
            """);
    }

    private static void planningDays(Edges e) {
        e.edge(13, "It is PLANNED, from a day on, not before TODAY", """
            2* competition | clubs 2 | 2* enter 0 @ | 2* enter 1 @ | day 5 | plan 0 4 = OUTSIDE | plan 0 0 = OUTSIDE
            plan 0 5 = 0 | match 0 4 = 5 | plan 1 6 = 1 | match 1 4 = 6
            """);
        e.edge(13, "DAYS are 0 to 999", """
            2* competition | clubs 2 | 2* enter 0 @ | 2* enter 1 @ | plan 0 -1 = OUTSIDE | plan 0 1000 = OUTSIDE
            plan 0 MIN = OUTSIDE | plan 0 MAX = OUTSIDE | plan 0 0 = 0 | plan 1 999 = 1 | match 1 4 = 999
            """);
        e.edge(13, "its last day would be beyond 999", """
            rules legs2;every30; = 0 | clubs 2 | 2* enter 0 @ | plan 0 999 = STATE | plan 0 970 = STATE | count 5 = 0
            plan 0 969 = 0 | match 0 4 = 969 | match 1 4 = 999
            """);
        // Three clubs have three rounds a leg, as four have; the last is 11 times 30 days behind the first.
        e.edge(13, "its last day would be beyond 999", """
            rules legs4;every30; = 0 | clubs 3 | 3* enter 0 @ | plan 0 670 = STATE | plan 0 669 = 0 | match 11 4 = 999
            match 11 1 = 11
            """);
        // Twelve clubs in four legs of 30 days would end on day 1290.
        e.edge(13, "its last day would be beyond 999", """
            rules legs4;every30; = 0 | rules legs4;every23; = 1 | clubs 12 | 12* enter 0 @ | 12* enter 1 @
            plan 0 0 = STATE | plan 1 11 = STATE | plan 1 10 = 0 | match 263 4 = 999
            """);
    }

    private static void planningStates(Edges e) {
        e.edge(13, "UNKNOWN; OUTSIDE: the day; STATE: it is, has fewer than 2 clubs", """
            plan 0 0 = UNKNOWN | competition | plan 1 0 = UNKNOWN | plan -1 0 = UNKNOWN | plan MIN 0 = UNKNOWN
            plan MAX 0 = UNKNOWN | plan 1 1000 = UNKNOWN | plan 0 1000 = OUTSIDE | plan 0 0 = STATE | clubs 2 | plan 0 0 = STATE
            enter 0 1 | plan 0 0 = STATE | enter 0 0 | plan 0 0 = 0 | plan 0 0 = STATE | plan 0 1000 = OUTSIDE | count 5 = 1
            """);
        e.edge(13, "with 2 clubs at least", """
            competition | clubs 2 | plan 0 0 = STATE | enter 0 0 | plan 0 0 = STATE | breaks 0 0 = STATE | enter 0 1
            plan 0 0 = 0 | breaks 0 0 = 0
            """);
        e.edge(13, "the number of its first match", """
            3* competition | clubs 3 | 3* enter 0 @ | 2* enter 1 @ | 3* enter 2 @ | plan 2 0 = 0 | plan 1 0 = 3 | plan 0 0 = 4
            match 2 0 = 2 | match 3 0 = 1 | match 4 0 = 0 | match 6 0 = 0 | match 7 0 = UNKNOWN
            """);
    }

    private static void planningRoom(Edges e) {
        String four = "rules legs4; = 0 | rules legs2; = 1 | rules legs4; = 2 | rules = 3 | clubs 12 | 12* enter 0 @"
            + "\n12* enter 1 @ | 2* enter 2 @ | 2* enter 3 @ | plan 0 0 = 0 | plan 1 0 = 264\n";
        e.edge(13, "(400 matches at most in all.)", four + """
            plan 2 0 = 396 | count 5 = 400 | match 399 0 = 2 | plan 3 0 = ROOM | count 5 = 400 | match 400 0 = UNKNOWN
            enter 3 2 = 3
            """);
        e.edge(13, "(400 matches at most in all.)", four + """
            plan 3 0 = 396 | plan 2 0 = ROOM | count 5 = 397 | enter 2 2 = 3 | enter 3 2 = STATE
            """);
        e.edge(13, "Calls answer, the first of these that fits", four + """
            plan 3 0 = 396 | plan 4 1000 = UNKNOWN | plan 2 1000 = OUTSIDE | plan 2 979 = STATE | plan 2 978 = ROOM
            plan 0 0 = STATE
            """);
    }

    /** Matches of a league of so many clubs by rows of match, round, home, away. */
    private static void circle(Edges e, String words, int clubs, int[]... rows) {
        StringBuilder script = new StringBuilder("league " + clubs + " 0 every1;\n");
        for (int[] row : rows) {
            for (int what = 1; what <= 3; what++) {
                script.append("match ").append(row[0]).append(' ').append(what).append(" = ").append(row[what]);
                script.append('\n');
            }
            script.append("match ").append(row[0]).append(" 4 = ").append(row[1]).append('\n');
        }
        e.edge(14, words, script.toString());
    }

    private static void circles(Edges e) {
        e.edge(14, "for i from 1 to n / 2 - 1", """
            league 2 0 | count 5 = 1 | match 0 1 = 0 | match 0 2 = 0 | match 0 3 = 1 | match 1 1 = UNKNOWN
            """);
        circle(e, "PLACE n - 1 and PLACE r meet, at home r if r is even, else n - 1", 4, new int[] {0, 0, 0, 3},
            new int[] {2, 1, 3, 1}, new int[] {4, 2, 2, 3});
        circle(e, "for i from 1 to n / 2 - 1 PLACES r + i and r - i (modulo n - 1)", 4, new int[] {1, 0, 1, 2},
            new int[] {3, 1, 2, 0}, new int[] {5, 2, 0, 1});
        e.edge(14, "(modulo n - 1)", """
            league 4 0 every1; | count 5 = 6 | match 1 3 = 2 | match 5 2 = 0 | match 6 0 = UNKNOWN
            """);
        circle(e, "with what is none there is no match", 3, new int[] {0, 0, 1, 2}, new int[] {1, 1, 2, 0},
            new int[] {2, 2, 0, 1});
        e.edge(14, "or, if these are odd, one more that is none", """
            league 3 0 | count 5 = 3 | match 2 1 = 2 | match 2 4 = 14 | match 3 0 = UNKNOWN
            """);
    }

    private static void circlesOfMore(Edges e) {
        // Of six clubs in round 4: 5 meets 4; 5 mod 5 is 0 and meets 3; 6 mod 5 is 1 and meets 2.
        circle(e, "at home r + i if i is odd, else r - i", 6, new int[] {0, 0, 0, 5}, new int[] {1, 0, 1, 4},
            new int[] {2, 0, 3, 2}, new int[] {3, 1, 5, 1}, new int[] {4, 1, 2, 0}, new int[] {5, 1, 4, 3},
            new int[] {12, 4, 4, 5}, new int[] {13, 4, 0, 3}, new int[] {14, 4, 2, 1});
        circle(e, "MATCHES are numbered in the order of ROUNDS, in one as told here", 5, new int[] {0, 0, 1, 4},
            new int[] {1, 0, 3, 2}, new int[] {2, 1, 2, 0}, new int[] {3, 1, 4, 3}, new int[] {8, 4, 0, 3},
            new int[] {9, 4, 2, 1});
        // The last round of twelve: 11 meets 10; 10 + 5 is 4 by 11, 10 - 5 is 5.
        circle(e, "ROUND r, from 0 to n - 2", 12, new int[] {60, 10, 10, 11}, new int[] {61, 10, 0, 9},
            new int[] {62, 10, 8, 1}, new int[] {65, 10, 4, 5});
        e.edge(14, "ROUND r, from 0 to n - 2", """
            league 12 0 every1; | count 5 = 66 | match 65 1 = 10 | match 65 4 = 10 | match 66 1 = UNKNOWN
            """);
    }

    private static void legs(Edges e) {
        e.edge(14, "in the second and fourth one with home and away the other way round", """
            league 2 0 legs4;every1; | count 5 = 4 | match 0 2 = 0 | match 1 2 = 1 | match 2 2 = 0 | match 3 2 = 1
            match 0 3 = 1 | match 1 3 = 0 | match 2 3 = 1 | match 3 3 = 0 | 4* match @ 1 = 0..
            """);
        e.edge(14, "Each further LEG has the ROUNDS of the first one again behind all before", """
            league 3 0 legs2;every2; | count 5 = 6 | match 3 1 = 3 | match 3 2 = 2 | match 3 3 = 1 | match 3 4 = 6
            match 4 2 = 0 | match 4 3 = 2 | match 5 2 = 1 | match 5 3 = 0 | match 5 1 = 5 | match 5 4 = 10
            """);
        e.edge(14, "ROUND r (of all legs) is played on the day told and r times EVERY", """
            rules legs4;every30; = 0 | clubs 2 | enter 0 0 | enter 0 1 | day 3 | plan 0 9 = 0 | match 0 4 = 9 | match 1 4 = 39
            match 2 4 = 69 | match 3 4 = 99
            """);
        e.edge(14, "ROUND r (of all legs) is played on the day told and r times EVERY", """
            league 4 0 every1; | match 0 4 = 0 | match 1 4 = 0 | match 2 4 = 1 | match 3 4 = 1 | match 4 4 = 2 | match 5 4 = 2
            """);
    }

    private static void matches(Edges e) {
        e.edge(14, "UNKNOWN; OUTSIDE.", """
            match 0 0 = UNKNOWN | match 0 8 = UNKNOWN | league 2 0 legs2; | match 2 0 = UNKNOWN | match -1 0 = UNKNOWN
            match MIN 0 = UNKNOWN | match MAX 0 = UNKNOWN | match 2 8 = UNKNOWN | match 0 -1 = OUTSIDE | match 0 8 = OUTSIDE
            match 1 MIN = OUTSIDE | match 1 MAX = OUTSIDE | match 1 0 = 0 | match 1 7 = 0
            """);
        e.edge(14, "A match IS TOLD (0), GOES ON (1), has ENDED (2), or was WALKED OVER (3).", """
            league 2 1 field1;legs2;every1; | match 0 5 = 0 | lineUp 0 0 0 | lineUp 1 0 1 | match 0 5 = 0 | start 0 = 1
            match 0 5 = 1 | event 0 0 0 0 0 | event 0 0 0 0 0 | match 0 5 = 1 | event 0 0 0 0 0 | match 0 5 = 2
            match 1 5 = 0 | day 1 | walkOver 1 0 = 1 | match 1 5 = 3
            """);
    }

    private static void scores(Edges e) {
        e.edge(14, "the score of the sides (0 as long as it is told; of one walked over as it counts)", """
            league 2 1 field1;legs3;every1;walkover9; | match 0 6 = 0 | match 0 7 = 0 | walkOver 0 0 = 1 | match 0 6 = 0
            match 0 7 = 9 | day 1 | walkOver 1 1 = 1 | match 1 6 = 9 | match 1 7 = 0
            day 2 | lineUp 0 2 0 | lineUp 1 2 1 | start 2 = 1 | match 2 6 = 0 | match 2 7 = 0 | event 2 1 1 1 0 = 1
            match 2 6 = 0 | match 2 7 = 1
            """);
        e.edge(14, "walkover N (1 to 9; 3)", """
            league 2 0 walkover1; | walkOver 0 1 = 1 | match 0 6 = 1 | match 0 7 = 0
            """);
    }

    private static void breaks(Edges e) {
        e.edge(15, "UNKNOWN; STATE: it has not entered, or it is not planned.", """
            breaks 0 0 = UNKNOWN | 2* competition | clubs 3 | breaks 2 0 = UNKNOWN | breaks 0 3 = UNKNOWN | breaks -1 0 = UNKNOWN
            breaks 0 -1 = UNKNOWN | breaks MIN MAX = UNKNOWN | breaks 0 0 = STATE | enter 0 0 | enter 0 1 | breaks 0 0 = STATE
            enter 1 2 | plan 0 0 = 0 | breaks 0 0 = 0 | breaks 0 1 = 0 | breaks 0 2 = STATE | breaks 1 2 = STATE
            """);
        e.edge(15, "two of its matches, both at home or both away", """
            league 4 0 | breaks 0 0 = 0 | breaks 0 1 = 1 | breaks 0 2 = 1 | breaks 0 3 = 0
            """);
        // Of three clubs each has H H or A A around the round in which it rests.
        e.edge(15, "(ROUNDS without one may lie between)", """
            league 3 0 legs2; | breaks 0 0 = 1 | breaks 0 1 = 1 | breaks 0 2 = 1
            """);
        e.edge(15, "with none of its own between them by ROUNDS", """
            league 3 0 legs4;every9; | breaks 0 0 = 3 | postpone 0 200 = 0 | postpone 1 300 = 0 | postpone 2 400 = 0
            breaks 0 0 = 3 | breaks 0 1 = 3 | breaks 0 2 = 3
            """);
        e.edge(15, "A BREAK of a club", """
            league 2 0 legs4; | breaks 0 0 = 0 | breaks 0 1 = 0
            """);
    }

    private static void postponingBounds(Edges e) {
        e.edge(16, "UNKNOWN; OUTSIDE: the day (not behind TODAY, too)", """
            postpone 0 1 = UNKNOWN | league 2 0 legs2;every9; | postpone 2 5 = UNKNOWN | postpone -1 5 = UNKNOWN
            postpone MIN 5 = UNKNOWN | postpone MAX 5 = UNKNOWN | postpone 2 1000 = UNKNOWN | day 5
            postpone 1 1000 = OUTSIDE | postpone 1 MAX = OUTSIDE | postpone 1 -1 = OUTSIDE | postpone 1 MIN = OUTSIDE
            postpone 1 4 = OUTSIDE | postpone 1 5 = OUTSIDE | match 1 4 = 9 | postpone 1 6 = 0 | match 1 4 = 6
            """);
        e.edge(16, "DAYS are 0 to 999", """
            league 2 0 legs2;every9; | postpone 0 999 = 0 | match 0 4 = 999 | postpone 0 998 = 0 | postpone 1 1 = 0
            postpone 1 0 = OUTSIDE | match 1 4 = 1
            """);
        // On the last day there is none behind it.
        e.edge(16, "to a day behind TODAY", """
            league 2 0 legs2;every9; | day 999 | postpone 0 999 = OUTSIDE | postpone 0 1000 = OUTSIDE | postpone 0 998 = OUTSIDE
            """);
        // A match whose day is gone can be postponed, too.
        e.edge(16, "TO POSTPONE a match that is told to a day behind TODAY", """
            league 2 0 legs2;every9; | day 20 | postpone 0 21 = 0 | match 0 4 = 21 | match 0 5 = 0 | match 0 1 = 0
            """);
    }

    private static void postponingStates(Edges e) {
        e.edge(16, "STATE: it is not told, it is its day, as told in 3", """
            league 2 1 field1;legs3;every1; | postpone 1 1 = STATE | postpone 1 9 = 0 | postpone 1 9 = STATE | postpone 1 1 = 0
            lineUp 0 0 0 | lineUp 1 0 1 | start 0 = 1 | postpone 0 9 = STATE | whistles 0 | postpone 0 9 = STATE
            day 1 | walkOver 1 0 = 1 | postpone 1 9 = STATE | postpone 2 9 = 0
            """);
        e.edge(16, "Calls answer, the first of these that fits", """
            league 2 0 legs2;every1; | walkOver 0 0 = 1 | postpone 0 0 = OUTSIDE | postpone 0 1000 = OUTSIDE | postpone 0 5 = STATE
            """);
    }

    private static void standingAgainst(Edges e) {
        String words = "on days that differ by less than the greater of both competitions' RESTS, with a club in both";
        e.edge(16, words, """
            league 2 0 legs2;every20;rest9; | postpone 0 11 = 0 | match 1 4 = 20 | postpone 0 12 = 1 | match 1 4 = 21
            """);
        e.edge(16, words, """
            league 2 0 legs2;every20;rest9; | postpone 0 29 = 0 | match 1 4 = 20 | postpone 0 28 = 1 | match 1 4 = 37
            """);
        e.edge(16, words, """
            league 2 0 legs2;every20;rest1; | postpone 0 19 = 0 | postpone 0 21 = 0 | postpone 0 20 = 1 | match 1 4 = 21
            """);
        // The greater of 4 and 1, whichever of both is postponed.
        String two = "rules rest4; = 0 | rules = 1 | clubs 4 | 2* enter 0 @ | 2* enter 1 @ | plan 0 10 = 0 | plan 1 30 = 1\n";
        e.edge(16, words, two + "postpone 1 14 = 0 | postpone 1 6 = 0 | postpone 1 13 = 1 | match 0 4 = 17");
        e.edge(16, words, two + "postpone 0 26 = 0 | postpone 0 34 = 0 | postpone 0 27 = 1 | match 1 4 = 31");
        e.edge(16, words, two + "postpone 1 7 = 1 | match 0 4 = 11");
        // 0-1 and, of another competition, 1-2; then 2-3 that has neither.
        e.edge(16, "with a club in both", """
            2* competition | competition | clubs 4 | enter 0 0 | enter 0 1 | enter 1 2 | enter 1 1 | enter 2 2 | enter 2 3
            plan 0 10 = 0 | plan 1 20 = 1 | plan 2 30 = 2 | postpone 2 10 = 0 | match 0 4 = 10 | postpone 1 10 = 2
            moved 0 = 0 | moved 1 = 2 | match 0 4 = 11 | match 2 4 = 11
            """);
    }

    private static void standingAgainstByStadium(Edges e) {
        String three = "rules rest5; = 0 | competition = 1 | club 4 0 | club 5 0 | club 4 0 | club 6 0 | club 5 0\n";
        // 0-1 and 2-3 are both in stadium 4.
        e.edge(16, "or on one day in one STADIUM", three + """
            enter 0 0 | enter 0 1 | enter 1 2 | enter 1 3 | plan 0 10 = 0 | plan 1 20 = 1
            postpone 1 9 = 0 | postpone 1 11 = 0 | postpone 1 10 = 1 | match 0 4 = 11
            """);
        // 3-4 is in stadium 6: that away from home has the stadium of 1 makes no difference.
        e.edge(16, "Its STADIUM is that of the club at home.", three + """
            enter 0 0 | enter 0 1 | enter 1 3 | enter 1 4 | plan 0 10 = 0 | plan 1 20 = 1 | postpone 1 10 = 0 | match 0 4 = 10
            """);
        e.edge(16, "Its STADIUM is that of the club at home.", three + """
            enter 0 0 | enter 0 1 | enter 1 3 | enter 1 2 | plan 0 10 = 0 | plan 1 20 = 1 | postpone 1 10 = 0 | match 0 4 = 10
            """);
    }

    private static void standingAgainstByState(Edges e) {
        String words = "Two matches, both TOLD or going on or ended, STAND AGAINST each other";
        String begin = "league 2 1 field1;legs2;every5;rest3; | lineUp 0 0 0 | lineUp 1 0 1 | start 0 = 1\n";
        e.edge(16, words, begin + "postpone 1 2 = STATE | match 1 4 = 5 | postpone 1 3 = 0 | match 1 4 = 3");
        e.edge(16, words, begin + "whistles 0 | postpone 1 2 = STATE | match 1 4 = 5 | postpone 1 3 = 0 | match 1 4 = 3");
        e.edge(16, words, """
            league 2 0 legs2;every5;rest3; | walkOver 0 0 = 1 | postpone 1 1 = 0 | match 1 4 = 1 | match 0 4 = 0
            """);
        // What goes to another day does not go where one that goes on or has ended stands, but where one was walked over.
        e.edge(16, "where nothing STANDS AGAINST it", """
            league 2 0 legs4;every2;rest1; | day 2 | walkOver 1 0 = 1 | postpone 2 3 = 0 | postpone 3 4 = 0 | postpone 0 3 = 1
            match 2 4 = 5 | match 3 4 = 4
            """);
    }

    private static void goingBehind(Edges e) {
        e.edge(16, "each goes to the first day behind that day where nothing STANDS AGAINST it", """
            league 2 0 legs4;every1; | postpone 0 1 = 1 | match 0 4 = 1 | match 1 4 = 4 | match 2 4 = 2 | match 3 4 = 3
            """);
        // The day that the postponed one leaves is free, but only one behind the day told is taken.
        e.edge(16, "the first day behind that day", """
            league 2 0 legs2;every5; | postpone 1 9 = 0 | postpone 0 9 = 1 | match 0 4 = 9 | match 1 4 = 10
            """);
        e.edge(16, "of the others that STAND AGAINST it there, by numbers", """
            league 4 0 every5; | postpone 0 5 = 2 | moved 0 = 2 | moved 1 = 3 | moved 2 = NONE | match 2 4 = 6 | match 3 4 = 6
            match 1 4 = 0 | match 4 4 = 10
            """);
        // 3-1 and 2-0 are both in stadium 5, so the second goes where the first went on no day.
        e.edge(16, "that one and what went so far where they are now", """
            rules every1; = 0 | club 0 0 | club 1 0 | club 5 0 | club 5 0 | 4* enter 0 @ | plan 0 0 = 0 | postpone 0 1 = 2
            match 2 4 = 3 | match 3 4 = 4
            """);
        // Match 3 comes to day 12: match 0 can't go where match 2 still stands, match 2 can where match 0 stood.
        e.edge(16, "those that go still where they are", """
            league 2 0 legs4;every5;rest2; | postpone 0 11 = 1 | match 2 4 = 13 | postpone 3 12 = 2 | moved 0 = 0 | moved 1 = 2
            match 0 4 = 15 | match 2 4 = 17 | match 1 4 = 5
            """);
        e.edge(16, "how many others were moved", """
            league 2 0 legs3;every1;rest2; | postpone 2 9 = 0 | postpone 0 8 = 1 | moved 0 = 2
            """);
    }

    private static void nothingIsDone(Edges e) {
        e.edge(16, "or there is no such day up to 999, nothing is done", """
            rules every1;legs3; = 0 | clubs 2 | 2* enter 0 @ | plan 0 997 = 0 | postpone 0 999 = STATE | match 0 4 = 997
            match 2 4 = 999 | moved 0 = NONE
            """);
        e.edge(16, "or there is no such day up to 999, nothing is done", """
            rules every1;legs2; = 0 | clubs 2 | 2* enter 0 @ | plan 0 997 = 0 | postpone 0 998 = 1 | match 1 4 = 999
            """);
        // 0-2 could go from 998 to 999, but 1-3 could not: both stay.
        e.edge(16, "nothing is done", """
            4* competition | clubs 4 | enter 0 0 | enter 0 2 | enter 1 1 | enter 1 3 | enter 2 1 | enter 2 3
            enter 3 0 | enter 3 1 | plan 0 998 = 0 | plan 1 998 = 1 | plan 2 999 = 2 | plan 3 5 = 3
            postpone 3 998 = STATE | match 0 4 = 998 | match 1 4 = 998 | match 2 4 = 999 | match 3 4 = 5
            postpone 2 50 = 0 | postpone 3 998 = 2 | match 0 4 = 999 | match 1 4 = 999
            """);
        // 0-2 is told and would go, 1-3 goes on.
        e.edge(16, "if one of them is not TOLD", """
            rules field1; = 0 | rules field1; = 1 | rules field1;rest2; = 2 | clubs 4 | 4* person | 4* register @ @ 0 999
            enter 0 0 | enter 0 2 | enter 1 1 | enter 1 3 | enter 2 0 | enter 2 1 | plan 0 2 = 0 | plan 1 0 = 1 | plan 2 9 = 2
            lineUp 1 1 0 | lineUp 3 1 1 | start 1 = 1 | postpone 2 1 = STATE | match 0 4 = 2 | match 2 4 = 9
            moved 0 = NONE | postpone 2 2 = 1 | match 0 4 = 4
            """);
    }

    private static void moved(Edges e) {
        e.edge(17, "in the order of going; NONE.", """
            moved 0 = NONE | moved -1 = NONE | league 4 0 every5; | moved 0 = NONE | postpone 0 5 = 2 | moved -1 = NONE
            moved 0 = 2 | moved 1 = 3 | moved 2 = NONE | moved MIN = NONE | moved MAX = NONE
            """);
        e.edge(17, "by the latest postpone() that was done", """
            league 4 0 every5; | postpone 0 5 = 2 | postpone 0 5 = STATE | postpone 9 5 = UNKNOWN | postpone 0 1000 = OUTSIDE
            moved 0 = 2 | moved 1 = 3 | postpone 0 500 = 0 | moved 0 = NONE | moved 1 = NONE
            """);
    }

    private static void movedBefore(Edges e) {
        // Match 1 is put where match 0 goes on; then where no day is left for match 3.
        e.edge(17, "by the latest postpone() that was done", """
            league 2 1 field1;legs4;every5; | postpone 1 10 = 1 | moved 0 = 2 | 2* lineUp @ 0 @ | start 0 = 1 | day 1
            postpone 3 999 = 0 | postpone 1 14 = 0 | moved 0 = NONE | postpone 2 14 = 1 | moved 0 = 1 | postpone 2 999 = STATE
            moved 0 = 1 | moved 1 = NONE | match 2 4 = 14 | match 3 4 = 999
            """);
        e.edge(17, "by the latest postpone() that was done", """
            league 2 1 field1;legs3;every5;rest9; | postpone 1 10 = 1 | moved 0 = 2 | 2* lineUp @ 0 @ | start 0 = 1
            postpone 1 8 = STATE | moved 0 = 2 | moved 1 = NONE | match 1 4 = 10 | match 2 4 = 19
            """);
    }

    private static void deducting(Edges e) {
        e.edge(18, "UNKNOWN; OUTSIDE; STATE: it has not entered", """
            deduct 0 0 1 = UNKNOWN | 2* competition | clubs 2 | deduct 2 0 1 = UNKNOWN | deduct 0 2 1 = UNKNOWN
            deduct -1 0 1 = UNKNOWN | deduct 0 -1 1 = UNKNOWN | deduct MIN MAX 1 = UNKNOWN | deduct 2 0 0 = UNKNOWN
            enter 0 0 | deduct 0 1 0 = OUTSIDE | deduct 0 1 1 = STATE | deduct 1 0 1 = STATE | deduct 0 0 1 = 1
            """);
        e.edge(18, "POINTS (1 to 99) are DEDUCTED from a club", """
            competition | club 0 0 | enter 0 0 | deduct 0 0 0 = OUTSIDE | deduct 0 0 -1 = OUTSIDE | deduct 0 0 100 = OUTSIDE
            deduct 0 0 MIN = OUTSIDE | deduct 0 0 MAX = OUTSIDE | table 0 999 0 6 = 0 | deduct 0 0 1 = 1 | table 0 0 0 6 = -1
            deduct 0 0 99 = 2 | table 0 0 0 6 = -100
            """);
        e.edge(18, "how many times that was so far, of all clubs and competitions", """
            2* competition | clubs 2 | enter 0 0 | enter 0 1 | enter 1 1 | deduct 0 0 1 = 1 | deduct 1 1 2 = 2 | deduct 0 1 4 = 3
            table 0 0 0 6 = -1 | table 0 0 1 6 = -4 | table 1 0 1 6 = -2
            """);
        e.edge(18, "ROOM: the 51st time", """
            competition | clubs 2 | enter 0 0 | 50* deduct 0 0 99 = 1.. | deduct 0 0 1 = ROOM | table 0 0 0 6 = -4950
            deduct 0 1 1 = STATE | deduct 0 0 100 = OUTSIDE | deduct 0 2 1 = UNKNOWN
            """);
        e.edge(18, "TODAY", """
            competition | clubs 1 | enter 0 0 | day 5 | deduct 0 0 3 = 1 | table 0 4 0 6 = 0 | table 0 5 0 6 = -3 | day 999
            deduct 0 0 3 = 2 | table 0 998 0 6 = -3 | table 0 999 0 6 = -6
            """);
    }
}
