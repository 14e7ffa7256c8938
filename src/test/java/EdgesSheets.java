/** Promises 19 to 22 and section 4: who is eligible, sheets, bans, the start, walk-overs. */
final class EdgesSheets {
    /** Two clubs of three persons each that meet on days 0 to 3; club 0 is at home on days 0 and 2. */
    private static final String SERIES = "field2;legs4;every1;";

    private EdgesSheets() {
    }

    static void tell(Edges e) {
        eligibleBounds(e);
        notRegistered(e);
        onSheets(e);
        whichComesFirst(e);
        anyMatch(e);
        bansBegin(e);
        bansByRed(e);
        bansByCards(e);
        multiplesOfCards(e);
        redAndCards(e);
        bansAreServed(e);
        aheadOf(e);
        clubsOfThatDay(e);
        lineUpBounds(e);
        sheetRoom(e);
        fieldAndBench(e);
        starting(e);
        walkingOver(e);
    }

    /** A match of the series on its day, with two persons of each side. */
    private static String game(int m, int home, int homeToo, int away, int awayToo, String events) {
        String begin = m == 0 ? "" : "day " + m + " | ";
        return begin + "lineUp " + home + " " + m + " 0 | lineUp " + homeToo + " " + m + " 0 | lineUp " + away + " " + m
            + " 1 | lineUp " + awayToo + " " + m + " 1 | start " + m + " = 1\n" + events + "\nwhistles " + m + "\n";
    }

    private static void eligibleBounds(Edges e) {
        e.edge(19, "UNKNOWN; OUTSIDE: the side.", """
            eligible 0 0 0 = UNKNOWN | person | eligible 0 0 0 = UNKNOWN | rules field1; = 0 | clubs 2 | register 0 0 0 999
            2* enter 0 @ | eligible 0 0 0 = UNKNOWN | plan 0 0 = 0 | eligible 0 0 0 = 0 | eligible 1 0 0 = UNKNOWN
            eligible -1 0 0 = UNKNOWN | eligible 0 1 0 = UNKNOWN | eligible 0 -1 0 = UNKNOWN | eligible MIN 0 0 = UNKNOWN
            eligible MAX 0 0 = UNKNOWN | eligible 0 MIN 0 = UNKNOWN | eligible 0 MAX 0 = UNKNOWN | eligible 1 0 2 = UNKNOWN
            eligible 0 1 2 = UNKNOWN | eligible 0 0 -1 = OUTSIDE | eligible 0 0 2 = OUTSIDE | eligible 0 0 MIN = OUTSIDE
            eligible 0 0 MAX = OUTSIDE | eligible 0 0 1 = 1
            """);
    }

    private static void notRegistered(Edges e) {
        e.edge(19, "1 it is not REGISTERED with the club of that side on the match's day", """
            league 2 0 field1;every5;legs2; | 4* person | eligible 0 1 0 = 1 | register 0 0 5 5 | register 1 0 0 4
            register 2 0 6 999 | register 3 1 0 999 | eligible 0 1 1 = 0 | eligible 0 1 0 = 1 | eligible 1 1 1 = 1
            eligible 2 1 1 = 1 | eligible 3 1 1 = 1 | eligible 3 1 0 = 0 | eligible 1 0 0 = 0 | eligible 0 0 0 = 1
            """);
        e.edge(19, "on the match's day", """
            league 2 0 field1;every5;legs2; | person | register 0 0 0 0 | eligible 0 0 0 = 0 | postpone 0 9 = 0 | eligible 0 0 0 = 1
            """);
        // On the first and the last day that there are.
        e.edge(19, "on the match's day", """
            rules field1;every9;legs2; = 0 | clubs 2 | 2* enter 0 @ | plan 0 0 = 0 | 2* person | register 0 0 999 999
            register 1 0 0 0 | postpone 1 999 = 0 | eligible 0 1 1 = 0 | eligible 1 0 0 = 0 | eligible 0 0 0 = 1 | eligible 1 1 1 = 1
            """);
    }

    private static void onSheets(Edges e) {
        e.edge(19, "3 it is on a sheet of this match", """
            league 2 2 field1; | eligible 0 0 0 = 0 | lineUp 0 0 0 = 1 | eligible 0 0 0 = 3 | eligible 1 0 0 = 0
            lineUp 0 0 0 = -13 | lineUp 2 0 1 = 1 | eligible 2 0 1 = 3
            """);
        String two = "rules field1; = 0 | rules field1; = 1 | clubs 2 | 2* person | register 0 0 0 999 | register 1 1 0 999\n"
            + "2* enter 0 @ | 2* enter 1 @ | plan 0 3 = 0 | plan 1 3 = 1\n";
        e.edge(19, "4 it is on a sheet of another match on that day that was not walked over", two + """
            eligible 0 1 0 = 0 | lineUp 0 0 0 = 1 | eligible 0 1 0 = 4 | lineUp 0 1 0 = -14 | eligible 1 1 1 = 0
            day 3 | eligible 0 1 0 = 4 | walkOver 0 1 = 1 | eligible 0 1 0 = 0 | lineUp 0 1 0 = 1
            """);
        e.edge(19, "4 it is on a sheet of another match on that day", two + """
            lineUp 0 1 0 = 1 | eligible 0 0 0 = 4 | postpone 1 4 = 0 | eligible 0 0 0 = 0
            """);
        // One that goes on or has ended counts as one that is told.
        e.edge(19, "that was not walked over", two + """
            lineUp 0 0 0 | lineUp 1 0 1 | day 3 | start 0 = 1 | eligible 0 1 0 = 4 | whistles 0 | eligible 0 1 0 = 4
            eligible 1 1 1 = 4
            """);
    }

    private static void whichComesFirst(Edges e) {
        // Person 0 is of club 2 up to day 10, of club 0 from day 11 on, and on a sheet of both.
        String both = "rules field1; = 0 | rules field1; = 1 | clubs 4 | person | register 0 2 0 10 | register 0 0 11 999\n"
            + "enter 0 2 | enter 0 3 | enter 1 0 | enter 1 1 | plan 0 5 = 0 | plan 1 20 = 1 | lineUp 0 0 0 = 1\n";
        e.edge(19, "unless (the first that is so)", both + """
            eligible 0 0 0 = 3 | eligible 0 1 0 = 0 | lineUp 0 1 0 = 1 | postpone 0 20 = 0 | eligible 0 1 0 = 3
            eligible 0 0 0 = 1
            """);
        e.edge(19, "unless (the first that is so)", both + "postpone 0 20 = 0 | eligible 0 1 0 = 4 | eligible 0 1 1 = 1");
        // Banned behind match 0, on the sheet of match 1, no more of the club from day 2 on.
        e.edge(19, "unless (the first that is so)", "rules " + SERIES + " = 0 | clubs 2 | 6* person | register 0 0 0 1" + """
            \n5* register 5 1 @ @ | register 1 0 0 999 | register 3 1 0 999 | register 4 1 0 999 | 2* enter 0 @ | plan 0 0 = 0
            lineUp 0 1 1 = 1 | eligible 0 1 1 = 3
            """ + game(0, 0, 1, 3, 4, "event 0 4 0 0 0") + "eligible 0 1 1 = 2 | eligible 0 2 0 = 1");
        // Banned, and on the sheet of a match of another competition that day.
        String cup = "rules field2;legs2;every1; = 0 | rules field2; = 1 | clubs 2 | 4* person | 2* register @ 0 0 999"
            + "\nregister 2 1 0 999 | register 3 1 0 999 | 2* enter 0 @ | 2* enter 1 @ | plan 0 0 = 0 | plan 1 1 = 2\n"
            + "lineUp 0 2 0 = 1 | eligible 0 1 1 = 4\n";
        e.edge(19, "unless (the first that is so)", cup + game(0, 0, 1, 2, 3, "event 0 4 0 0 0") + "eligible 0 1 1 = 2");
    }

    private static void anyMatch(Edges e) {
        e.edge(19, "of any match, told or not", """
            league 2 2 field1;legs2;every1; | lineUp 0 0 0 | lineUp 2 0 1 | start 0 = 1 | eligible 1 0 0 = 0 | eligible 0 0 0 = 3
            lineUp 1 0 0 = STATE | whistles 0 | eligible 1 0 0 = 0 | day 1 | walkOver 1 0 = 1 | eligible 1 1 1 = 0 | eligible 1 1 0 = 1
            """);
        e.edge(19, "(Asked then alone.)", """
            league 2 3 field2;legs2;every1; | lineUp 0 1 1 = 1
            """ + game(0, 0, 1, 3, 4, "event 0 4 0 0 0") + """
            eligible 0 1 1 = 2 | day 1 | lineUp 1 1 1 = 2 | lineUp 3 1 0 | lineUp 4 1 0 | start 1 = 1 | onField 1 1 0 = 0
            """);
    }

    private static void bansBegin(Edges e) {
        e.edge(19, "let DEBT be 0", "league 2 3 " + SERIES + "\n" + game(0, 0, 1, 3, 4, "")
            + "eligible 0 1 1 = 0 | eligible 0 2 0 = 0 | eligible 0 3 1 = 0 | eligible 2 1 1 = 0");
        // As long as the match goes on nothing came of it.
        e.edge(19, "that ENDED or were WALKED OVER", "league 2 3 " + SERIES + """
            \nlineUp 0 0 0 | lineUp 1 0 0 | lineUp 3 0 1 | lineUp 4 0 1 | start 0 = 1 | event 0 4 0 0 0 = 1 | eligible 0 1 1 = 0
            whistles 0 | eligible 0 1 1 = 2
            """);
        // A side without enough persons ends the match, too.
        e.edge(19, "(of an ended one)", "league 2 3 field1;legs4;every1;" + """
            \nlineUp 0 0 0 | lineUp 3 0 1 | start 0 = 1 | event 0 4 0 0 0 = 1 | match 0 5 = 2 | eligible 0 1 1 = 2
            """);
    }

    private static void bansByRed(Edges e) {
        String words = "RED if the person was sent off in it";
        String red = game(0, 0, 1, 3, 4, "event 0 4 0 0 0");
        e.edge(19, words, "league 2 3 " + SERIES + "\n" + red + game(1, 3, 4, 1, 2, "eligible 0 1 1 = 2")
            + "eligible 0 2 0 = 0 | eligible 0 3 1 = 0");
        e.edge(19, words, "league 2 3 red2;" + SERIES + "\n" + red + game(1, 3, 4, 1, 2, "eligible 0 1 1 = 2")
            + "eligible 0 2 0 = 2 | eligible 0 3 1 = 2\n" + game(2, 1, 2, 3, 4, "") + "eligible 0 3 1 = 0");
        e.edge(19, words, "league 2 3 red9;" + SERIES + "\n" + red + game(1, 3, 4, 1, 2, "") + game(2, 1, 2, 3, 4, "")
            + "eligible 0 1 1 = 2 | eligible 0 2 0 = 2 | eligible 0 3 1 = 2 | eligible 1 3 1 = 0");
        e.edge(19, "with the second one in this match it is SENT OFF", "league 2 3 " + SERIES + "\n"
            + game(0, 0, 1, 3, 4, "event 0 3 0 0 0 | event 0 3 0 0 0") + "eligible 0 1 1 = 2 | eligible 1 1 1 = 0");
        // Who was substituted was not sent off.
        e.edge(19, words, "league 2 4 " + SERIES + "\nlineUp 0 0 0 | lineUp 1 0 0 | lineUp 2 0 0 | lineUp 4 0 1 | lineUp 5 0 1"
            + "\nstart 0 = 1 | event 0 5 0 0 2 | event 0 4 0 2 0 | whistles 0 | eligible 0 1 1 = 0 | eligible 2 1 1 = 2");
        // Sent off again in a match that was to be served: one is served by it, one is new.
        e.edge(19, "if DEBT is above 0 it is one less; then it grows by what came of it", "league 2 3 " + SERIES
            + "\nlineUp 0 1 1 = 1\n" + red + "day 1 | lineUp 1 1 1 | lineUp 3 1 0 | lineUp 4 1 0 | start 1 = 1"
            + "\nevent 1 4 1 0 0 = 1 | whistles 1 | eligible 0 2 0 = 2 | day 2 | walkOver 2 0 = 1 | eligible 0 3 1 = 0");
    }

    private static void bansByCards(Edges e) {
        String words = "came to, or beyond, a new multiple of CARDS by those of this one";
        String yellow = game(0, 0, 1, 3, 4, "event 0 3 0 0 0");
        String second = game(1, 3, 4, 0, 1, "event 1 3 1 0 0");
        e.edge(19, words, "league 2 3 cards1;" + SERIES + "\n" + yellow + "eligible 0 1 1 = 2 | eligible 1 1 1 = 0");
        e.edge(19, words, "league 2 3 cards2;" + SERIES + "\n" + yellow + "eligible 0 1 1 = 0\n" + second
            + "eligible 0 2 0 = 2 | eligible 1 2 0 = 0\n" + game(2, 1, 2, 3, 4, "") + "eligible 0 3 1 = 0");
        e.edge(19, words, "league 2 3 cards3;" + SERIES + "\n" + yellow + second + "eligible 0 2 0 = 0\n"
            + game(2, 0, 1, 3, 4, "event 2 3 0 0 0") + "eligible 0 3 1 = 2");
        e.edge(19, words, "league 2 3 cards4;" + SERIES + "\n" + yellow + second
            + game(2, 0, 1, 3, 4, "event 2 3 0 0 0") + "eligible 0 3 1 = 0");
        // Two persons' yellows are not added up.
        e.edge(19, "its YELLOWS in all such matches so far", "league 2 3 cards2;" + SERIES + "\n" + yellow
            + game(1, 3, 4, 0, 1, "event 1 3 1 1 0") + "eligible 0 2 0 = 0 | eligible 1 2 0 = 0");
    }

    private static void multiplesOfCards(Edges e) {
        String words = "a new multiple of CARDS";
        // With 1 each yellow is one; behind the ban it is the second multiple.
        e.edge(19, words, "league 2 3 cards1;" + SERIES + "\n" + game(0, 0, 1, 3, 4, "event 0 3 0 0 0")
            + game(1, 3, 4, 1, 2, "") + game(2, 0, 1, 3, 4, "event 2 3 0 0 0") + "eligible 0 3 1 = 2");
        // A match without a yellow behind a multiple makes no new one.
        e.edge(19, words, "league 2 3 cards1;" + SERIES + "\n" + game(0, 0, 1, 3, 4, "event 0 3 0 0 0")
            + game(1, 3, 4, 1, 2, "") + game(2, 0, 1, 3, 4, "") + "eligible 0 3 1 = 0");
        // Of three clubs club 0 plays in 1, 2, 4, 5, 7, 8: yellow in 1 and 2, banned in 4, yellow in 5 and 7, banned in 8.
        String play = "league 3 1 cards2;field1;legs3;every1;\n" + yellowAway(1, 2) + yellowHome(2, 1)
            + "eligible 0 4 0 = 2 | day 4 | walkOver 4 0 = 1 | eligible 0 5 1 = 0\n" + yellowAway(5, 1)
            + "eligible 0 7 1 = 0\n" + yellowAway(7, 2) + "eligible 0 8 0 = 2\n";
        e.edge(19, words, play);
    }

    private static String yellowAway(int m, int other) {
        return "day " + m + " | lineUp " + other + " " + m + " 0 | lineUp 0 " + m + " 1 | start " + m + " = 1 | event " + m
            + " 3 1 0 0 | whistles " + m + "\n";
    }

    private static String yellowHome(int m, int other) {
        return "day " + m + " | lineUp 0 " + m + " 0 | lineUp " + other + " " + m + " 1 | start " + m + " = 1 | event " + m
            + " 3 0 0 0 | whistles " + m + "\n";
    }

    private static void redAndCards(Edges e) {
        String both = game(0, 0, 1, 3, 4, "event 0 3 0 0 0 | event 0 4 0 0 0");
        e.edge(19, "(but those in which it was sent off)", "league 2 3 cards2;" + SERIES + "\n" + both
            + game(1, 3, 4, 1, 2, "") + game(2, 0, 1, 3, 4, "event 2 3 0 0 0") + "eligible 0 3 1 = 0");
        e.edge(19, "RED if the person was sent off in it; else 1", "league 2 3 cards1;" + SERIES + "\n" + both
            + game(1, 3, 4, 1, 2, "eligible 0 1 1 = 2") + "eligible 0 2 0 = 0");
        // Two yellows in one match are a sending off, and no multiple of 2.
        e.edge(19, "RED if the person was sent off in it; else 1", "league 2 3 cards2;red2;" + SERIES + "\n"
            + game(0, 0, 1, 3, 4, "event 0 3 0 0 0 | event 0 3 0 0 0") + game(1, 3, 4, 1, 2, "")
            + game(2, 1, 2, 3, 4, "eligible 0 2 0 = 2") + "eligible 0 3 1 = 0");
    }

    private static void bansAreServed(Edges e) {
        String red = "league 2 3 " + SERIES + "\n" + game(0, 0, 1, 3, 4, "event 0 4 0 0 0");
        e.edge(19, "for the matches of the competition that ENDED or were WALKED OVER", red
            + "eligible 0 2 0 = 2 | day 1 | eligible 0 2 0 = 2 | walkOver 1 0 = 1 | eligible 0 2 0 = 0");
        e.edge(19, "that ENDED or were WALKED OVER", red + """
            day 1 | lineUp 1 1 1 | lineUp 2 1 1 | lineUp 3 1 0 | lineUp 4 1 0 | start 1 = 1 | eligible 0 2 0 = 2 | whistles 1
            eligible 0 2 0 = 0
            """);
        // Match 1 stays told, its day being gone: nothing is served by it.
        e.edge(19, "that ENDED or were WALKED OVER", red + "day 2 | eligible 0 2 0 = 2 | eligible 0 3 1 = 2");
        // A review takes the red back, or gives one.
        e.edge(19, "if the person was sent off in it", red + """
            review 0 0 3 0 0 0 = 0 | eligible 0 1 1 = 0 | review 0 0 4 0 1 0 = 0 | eligible 0 1 1 = 0 | eligible 1 1 1 = 2
            """);
        String cup = "rules field2; = 0 | rules field2; = 1 | clubs 2 | 4* person | 2* register @ 0 0 999"
            + "\nregister 2 1 0 999 | register 3 1 0 999 | 2* enter 0 @ | 2* enter 1 @ | plan 0 0 = 0 | plan 1 1 = 1\n";
        e.edge(19, "BANNED for a match x of a competition", cup + game(0, 0, 1, 2, 3, "event 0 4 0 0 0")
            + "eligible 0 1 0 = 0");
    }

    private static void aheadOf(Edges e) {
        // No match is ahead of itself.
        e.edge(19, "and are ahead of x", "league 2 3 " + SERIES + "\n" + game(0, 0, 1, 3, 4, "event 0 4 0 0 0")
            + "eligible 0 0 0 = 3 | eligible 0 1 1 = 2");
        // Match 0 is behind all others by its day, so a red of match 1 is served in match 2.
        e.edge(19, "ahead of x (on a day before, or on its day with a lesser number)", "league 2 3 " + SERIES
            + "\npostpone 0 9 = 0\n" + game(1, 3, 4, 0, 1, "event 1 4 1 0 0") + "eligible 0 0 0 = 2\n"
            + game(2, 1, 2, 3, 4, "") + "eligible 0 0 0 = 0 | eligible 0 3 1 = 0");
        e.edge(19, "ahead of x (on a day before, or on its day with a lesser number)", "league 2 3 " + SERIES
            + "\nwalkOver 0 0 = 1\n" + game(1, 3, 4, 0, 1, "event 1 4 1 0 0") + "eligible 0 0 0 = 0 | eligible 0 2 0 = 2");
        // Match 0, the one of the least number, comes last: what came of it bars from no other.
        e.edge(19, "ahead of x (on a day before, or on its day with a lesser number)", "league 2 3 " + SERIES
            + "\npostpone 0 9 = 0\n" + game(1, 3, 4, 0, 1, "") + "day 9 | lineUp 2 0 0 | lineUp 1 0 0 | lineUp 3 0 1 | lineUp 4 0 1"
            + "\nstart 0 = 1 | event 0 4 0 2 0 | whistles 0 | eligible 2 1 1 = 0 | eligible 2 2 0 = 0 | eligible 2 3 1 = 0");
        // By days 2, 1, 0, 3: two to serve behind match 2 are served in 1 and 0.
        e.edge(19, "by days, then numbers", "league 2 3 red2;" + SERIES + "\npostpone 0 20 = 0 | postpone 1 19 = 0"
            + "\npostpone 2 18 = 0 | postpone 3 21 = 0 | day 18 | lineUp 0 2 0 | lineUp 1 2 0 | lineUp 3 2 1 | lineUp 4 2 1"
            + "\nstart 2 = 1 | event 2 4 0 0 0 | whistles 2 | eligible 0 1 1 = 2 | day 19 | walkOver 1 0 = 1 | eligible 0 0 0 = 2"
            + "\nday 20 | lineUp 1 0 0 | lineUp 2 0 0 | lineUp 3 0 1 | lineUp 4 0 1 | start 0 = 1 | event 0 4 1 4 0 | whistles 0"
            + "\neligible 0 3 1 = 0 | eligible 4 3 0 = 2");
        // By days 2, 1, 0, 3: of two to serve behind match 1, the one in the middle, one is served in 0.
        e.edge(19, "by days, then numbers", "league 2 3 red2;" + SERIES + "\npostpone 0 20 = 0 | postpone 1 19 = 0"
            + "\npostpone 2 18 = 0 | postpone 3 21 = 0 | day 18 | walkOver 2 0 = 1 | day 19 | lineUp 0 1 1 | lineUp 1 1 1"
            + "\nlineUp 3 1 0 | lineUp 4 1 0 | start 1 = 1 | event 1 4 1 1 0 | whistles 1 | day 20 | walkOver 0 0 = 1"
            + "\neligible 1 3 1 = 2 | eligible 0 3 1 = 0");
        // By days match 1 comes first, then 0: the red of match 0 is not served by match 1.
        e.edge(19, "by days, then numbers", "league 2 3 " + SERIES + "\npostpone 2 20 = 0 | postpone 3 21 = 0"
            + "\npostpone 0 9 = 0\n" + game(1, 3, 4, 0, 1, "") + "day 9 | lineUp 0 0 0 | lineUp 1 0 0 | lineUp 3 0 1"
            + "\nlineUp 4 0 1 | start 0 = 1 | event 0 4 0 0 0 | whistles 0 | eligible 0 2 0 = 2");
    }

    private static void clubsOfThatDay(Edges e) {
        // Person 0 is of club 1 on day 0, then of club 0; matches: 0: 1-2, 1: 2-0, 2: 0-1, 3: 2-1, 4: 0-2, 5: 1-0.
        String change = "rules field2;legs2;every1; = 0 | clubs 3 | 4* person | register 0 1 0 0 | register 1 1 0 999"
            + "\nregister 2 2 0 999 | register 3 2 0 999 | 3* enter 0 @ | plan 0 0 = 0\n";
        String red = game(0, 0, 1, 2, 3, "event 0 4 0 0 0");
        String words = "in which the club plays with which the person is REGISTERED on that very match's day";
        e.edge(19, words, change + "register 0 0 1 999\n" + red
            + "eligible 0 1 1 = 2 | day 1 | walkOver 1 0 = 1 | eligible 0 2 0 = 0");
        // Not registered on day 1 and 2, it serves nothing then.
        e.edge(19, words, change + "register 0 1 3 999\n" + red + """
            day 1 | walkOver 1 0 = 1 | day 2 | walkOver 2 0 = 1 | eligible 0 3 1 = 2 | day 3 | walkOver 3 0 = 1 | eligible 0 5 0 = 0
            """);
        // Matches of the old club serve nothing once it has left it.
        e.edge(19, words, change + "register 0 0 3 999\n" + red + """
            day 2 | walkOver 2 0 = 1 | eligible 0 4 0 = 2 | day 3 | walkOver 3 0 = 1 | eligible 0 4 0 = 2
            """);
        // Of no club on the day of the match in which it was sent off, as that was postponed: it does not count.
        e.edge(19, words, change + "register 0 0 5 999 | lineUp 0 0 0 | lineUp 1 0 0 | lineUp 2 0 1 | lineUp 3 0 1"
            + "\npostpone 0 1 = 1 | moved 0 = 1 | day 1 | start 0 = 1 | event 0 4 0 0 0 | whistles 0 | eligible 0 5 1 = 0");
    }

    private static void lineUpBounds(Edges e) {
        e.edge(20, "UNKNOWN; OUTSIDE; STATE: the match is not told", """
            lineUp 0 0 0 = UNKNOWN | league 2 2 field1;legs3;every1; | lineUp 4 0 0 = UNKNOWN | lineUp -1 0 0 = UNKNOWN
            lineUp 0 3 0 = UNKNOWN | lineUp 0 -1 0 = UNKNOWN | lineUp MIN 0 0 = UNKNOWN | lineUp 0 MAX 0 = UNKNOWN
            lineUp 4 0 2 = UNKNOWN | lineUp 0 0 -1 = OUTSIDE | lineUp 0 0 2 = OUTSIDE | lineUp 0 0 MIN = OUTSIDE
            lineUp 0 0 MAX = OUTSIDE | lineUp 0 0 0 = 1 | lineUp 2 0 1 = 1 | start 0 = 1 | lineUp 1 0 0 = STATE
            lineUp 1 0 2 = OUTSIDE | lineUp 2 0 0 = STATE | whistles 0 | lineUp 1 0 0 = STATE | day 1 | walkOver 1 0 = 1
            lineUp 0 1 1 = STATE | lineUp 0 2 0 = 1
            """);
        e.edge(20, "how many are on it; -10 less why it may not", """
            rules field1; = 0 | rules field1; = 1 | clubs 2 | 3* person | register 0 0 0 999 | register 1 0 0 999
            2* enter 0 @ | 2* enter 1 @ | plan 0 0 = 0 | plan 1 0 = 1 | lineUp 2 0 0 = -11 | lineUp 0 0 1 = -11
            lineUp 0 0 0 = 1 | lineUp 0 0 0 = -13 | lineUp 0 1 0 = -14 | lineUp 1 0 0 = 2 | lineUp 1 1 0 = -14
            """);
        e.edge(20, "2 it is BANNED", "league 2 3 " + SERIES + "\n" + game(0, 0, 1, 3, 4, "event 0 4 0 0 0")
            + "lineUp 0 1 1 = -12 | lineUp 1 1 1 = 1 | lineUp 0 3 1 = -12");
    }

    private static void sheetRoom(Edges e) {
        e.edge(20, "persons, FIELD and 4 at most", """
            league 2 6 field1; | 5* lineUp @ 0 0 = 1.. | lineUp 5 0 0 = ROOM | lineUp 6 0 1 = 1 | eligible 5 0 0 = 0
            """);
        e.edge(20, "persons, FIELD and 4 at most", """
            league 2 11 field6; | 10* lineUp @ 0 0 = 1.. | lineUp 10 0 0 = ROOM | lineUp 11 0 1 = 1
            """);
        e.edge(20, "ROOM: the sheet (ahead of -10 less ..)", """
            league 2 6 field1; | 5* lineUp @ 0 0 | lineUp 6 0 0 = ROOM | lineUp 0 0 0 = ROOM | lineUp 5 0 0 = ROOM
            lineUp 5 0 1 = -11 | lineUp 5 0 2 = OUTSIDE | lineUp 12 0 0 = UNKNOWN
            """);
        e.edge(20, "STATE: the match is not told; ROOM: the sheet", """
            league 2 6 field1; | 5* lineUp @ 0 0 | lineUp 6 0 1 | start 0 = 1 | lineUp 5 0 0 = STATE
            """);
    }

    private static void fieldAndBench(Edges e) {
        e.edge(20, "the first FIELD of them are ON THE FIELD when it begins, in this order", """
            league 2 4 field3; | lineUp 3 0 0 | lineUp 1 0 0 | lineUp 2 0 0 | lineUp 0 0 0 | lineUp 6 0 1 | lineUp 5 0 1
            lineUp 4 0 1 | onField 0 0 0 = NONE | start 0 = 1 | onField 0 0 0 = 3 | onField 0 0 1 = 1 | onField 0 0 2 = 2
            onField 0 0 3 = NONE | onField 0 1 0 = 6 | onField 0 1 2 = 4 | onField 0 1 3 = NONE
            """);
        e.edge(20, "the others ON THE BENCH", """
            begun 6 field2;subs5; | event 0 5 0 0 1 = -15 | event 0 5 0 0 5 = 1 | event 0 5 0 1 2 = 2 | event 0 5 1 6 11 = 3
            """);
    }

    private static void starting(Edges e) {
        e.edge(21, "UNKNOWN; STATE: it is not told, TODAY is not its day, a sheet has fewer than FIELD.", """
            start 0 = UNKNOWN | league 2 1 field1;legs3;every2; | start 3 = UNKNOWN | start -1 = UNKNOWN | start MIN = UNKNOWN
            start MAX = UNKNOWN | start 0 = STATE | lineUp 0 0 0 | lineUp 1 0 1 | start 0 = 1 | start 0 = STATE | whistles 0
            start 0 = STATE | day 2 | lineUp 0 1 1 | lineUp 1 1 0 | walkOver 1 0 = 1 | start 1 = STATE
            """);
        e.edge(21, "TODAY is not its day", """
            league 2 1 field1;legs2;every2; | 2* lineUp @ 0 @ | lineUp 1 1 0 | lineUp 0 1 1 | day 1 | start 0 = STATE
            start 1 = STATE | day 2 | start 0 = STATE | start 1 = 1 | postpone 0 3 = 0 | start 0 = STATE | day 3 | start 0 = 1
            """);
        e.edge(21, "a sheet has fewer than FIELD", """
            league 2 3 field3; | start 0 = STATE | 3* lineUp @ 0 0 | start 0 = STATE | lineUp 3 0 1 | lineUp 4 0 1
            start 0 = STATE | lineUp 5 0 1 = 3 | start 0 = 1 | match 0 5 = 1
            """);
        e.edge(21, "a sheet has fewer than FIELD", """
            league 2 3 field3; | lineUp 0 0 0 | lineUp 1 0 0 | lineUp 3 0 1 | lineUp 4 0 1 | lineUp 5 0 1 | start 0 = STATE
            lineUp 2 0 0 = 3 | start 0 = 1
            """);
        e.edge(21, "A match begins: 1.", """
            rules field6; = 0 | clubs 2 | 12* person | 6* register @ 0 999 999 = 1.. | register 6 1 999 999 | register 7 1 999 999
            register 8 1 999 999 | register 9 1 999 999 | register 10 1 999 999 | register 11 1 999 999 | 2* enter 0 @
            plan 0 999 = 0 | 6* lineUp @ 0 0 | lineUp 6 0 1 | lineUp 7 0 1 | lineUp 8 0 1 | lineUp 9 0 1 | lineUp 10 0 1
            day 999 | start 0 = STATE | lineUp 11 0 1 = 6 | start 0 = 1 | onField 0 1 5 = 11
            """);
    }

    private static void walkingOver(Edges e) {
        e.edge(22, "UNKNOWN; OUTSIDE; STATE: it is not told, or its day is behind TODAY.", """
            walkOver 0 0 = UNKNOWN | league 2 1 field1;legs4;every2; | walkOver 4 0 = UNKNOWN | walkOver -1 0 = UNKNOWN
            walkOver MIN 0 = UNKNOWN | walkOver MAX 0 = UNKNOWN | walkOver 4 2 = UNKNOWN | walkOver 0 -1 = OUTSIDE
            walkOver 0 2 = OUTSIDE | walkOver 0 MIN = OUTSIDE | walkOver 0 MAX = OUTSIDE | 2* lineUp @ 0 @ | start 0 = 1
            walkOver 0 0 = STATE | walkOver 0 2 = OUTSIDE | whistles 0 | walkOver 0 0 = STATE | day 2 | walkOver 1 0 = 1
            walkOver 1 0 = STATE | walkOver 1 1 = STATE | match 1 6 = 0 | match 1 7 = 3
            """);
        e.edge(22, "or its day is behind TODAY", """
            league 2 0 legs4;every2; | walkOver 1 0 = STATE | day 1 | walkOver 1 0 = STATE | walkOver 0 0 = 1 | day 2
            walkOver 1 1 = 1 | day 999 | walkOver 2 0 = 1 | walkOver 3 1 = 1 | match 3 4 = 6
            """);
        e.edge(22, "A match that is told is WALKED OVER, a side does not come: 1.", """
            league 2 1 field1;legs2;every1; | walkOver 0 0 = 1 | match 0 5 = 3 | match 0 6 = 0 | match 0 7 = 3 | start 0 = STATE
            lineUp 0 0 0 = STATE | event 0 0 0 0 0 = -11 | rows 0 0 = 0 | state 0 0 = STATE | onField 0 0 0 = NONE
            day 1 | lineUp 1 1 0 = 1 | lineUp 0 1 1 = 1 | walkOver 1 1 = 1 | match 1 6 = 3 | match 1 7 = 0 | onField 1 0 0 = NONE
            """);
    }
}
