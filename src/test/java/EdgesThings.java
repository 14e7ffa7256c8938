/** Promises 7 to 11 and 44, and section 1: clubs, persons, spans, officials, TODAY, and how many there are. */
final class EdgesThings {
    private EdgesThings() {
    }

    static void tell(Edges e) {
        clubs(e);
        persons(e);
        spans(e);
        spansByDays(e);
        officials(e);
        days(e);
        counts(e);
    }

    private static void clubs(Edges e) {
        e.edge(7, "CLUBS (12 at most)", """
            11* club 0 0 = 0.. | club 0 0 = 11 | club 0 0 = ROOM | count 0 = 12 | club 11 7 = ROOM
            """);
        e.edge(7, "have a STADIUM (0 to 11; several may have one)", """
            club -1 0 = OUTSIDE | club 0 0 = 0 | club 0 0 = 1 | club 11 0 = 2 | club 12 0 = OUTSIDE | club MIN 0 = OUTSIDE
            club MAX 0 = OUTSIDE | count 0 = 3
            """);
        e.edge(7, "and a COUNTRY (0 to 7)", """
            club 0 -1 = OUTSIDE | club 0 0 = 0 | club 0 7 = 1 | club 0 8 = OUTSIDE | club 0 MIN = OUTSIDE
            club 0 MAX = OUTSIDE | count 0 = 2
            """);
        // The thirteenth is none of the twelve that there are.
        e.edge(7, "CLUBS (12 at most)", """
            competition | 12* club @ 1 | enter 0 11 | enter 0 0 | plan 0 3 = 0 | official 10 0 | official 5 0 | club 5 0 = ROOM
            club 0 7 = ROOM | assign 3 = 1 | officialOf 0 = 0
            """);
        e.edge(7, "A CLUB: its number. OUTSIDE; ROOM.", """
            12* club 0 0 | club 12 0 = OUTSIDE | club 0 8 = OUTSIDE | club -1 -1 = OUTSIDE | club 0 0 = ROOM
            """);
    }

    private static void persons(Edges e) {
        e.edge(8, "PERSONS (200 at most)", """
            199* person = 0.. | person = 199 | person = ROOM | person = ROOM | count 1 = 200
            """);
        e.edge(8, "PERSONS (200 at most)", """
            rules field1; = 0 | clubs 2 | 200* person | register 0 0 0 9 | register 199 0 0 9 | 2* enter 0 @ | plan 0 3 = 0
            person = ROOM | eligible 0 0 0 = 0 | eligible 199 0 0 = 0 | eligible 1 0 0 = 1 | register 0 0 9 10 = STATE
            """);
        e.edge(8, "A PERSON: its number. ROOM.", """
            club 0 0 | register 0 0 0 0 = UNKNOWN | person = 0 | register 0 0 0 0 = 1 | register 1 0 0 0 = UNKNOWN
            """);
    }

    private static void spans(Edges e) {
        e.edge(9, "UNKNOWN; OUTSIDE: also to below from; STATE: it is registered on one of these days; ROOM.", """
            register 0 0 0 0 = UNKNOWN | club 0 0 | register 0 0 0 0 = UNKNOWN | person | register 0 0 0 0 = 1
            register 1 0 5 5 = UNKNOWN | register 0 1 5 5 = UNKNOWN | register -1 0 5 5 = UNKNOWN
            register 0 -1 5 5 = UNKNOWN | register MIN 0 5 5 = UNKNOWN | register 0 MAX 5 5 = UNKNOWN | count 2 = 1
            """);
        e.edge(9, "DAYS are 0 to 999", """
            club 0 0 | 4* person | register 0 0 -1 5 = OUTSIDE | register 0 0 0 1000 = OUTSIDE | register 0 0 1000 1000 = OUTSIDE
            register 0 0 -1 -1 = OUTSIDE | register 0 0 MIN MAX = OUTSIDE | register 0 0 0 MAX = OUTSIDE
            register 0 0 MIN 0 = OUTSIDE | register 0 0 0 999 = 1 | register 1 0 0 0 = 2 | register 2 0 999 999 = 3
            """);
        e.edge(9, "OUTSIDE: also to below from", """
            club 0 0 | person | register 0 0 1 0 = OUTSIDE | register 0 0 999 998 = OUTSIDE | register 0 0 999 0 = OUTSIDE
            register 0 0 5 5 = 1
            """);
        // The first that fits: UNKNOWN, then OUTSIDE, then STATE, then ROOM.
        e.edge(9, "Calls answer, the first of these that fits", """
            club 0 0 | 2* person | 299* register 0 0 @ @ = 1.. | register 1 0 5 5 = 300 | register 1 0 6 6 = ROOM
            register 1 0 5 5 = STATE | register 1 0 5 4 = OUTSIDE | register 2 0 5 4 = UNKNOWN | register 1 1 5 5 = UNKNOWN
            """);
        e.edge(9, "(300 at most in all)", """
            club 0 0 | 3* person | 150* register 0 0 @ @ = 1.. | 149* register 1 0 @ @ = 151.. | register 2 0 0 999 = 300
            register 1 0 500 500 = ROOM | register 0 0 998 999 = ROOM | count 2 = 300
            """);
    }

    private static void spansByDays(Edges e) {
        e.edge(9, "STATE: it is registered on one of these days", """
            club 0 0 | club 1 0 | 2* person | register 0 0 10 20 = 1
            register 0 0 10 20 = STATE | register 0 1 10 10 = STATE | register 0 1 20 20 = STATE | register 0 1 0 10 = STATE
            register 0 0 20 30 = STATE | register 0 1 0 999 = STATE | register 0 0 12 13 = STATE
            register 0 1 9 9 = 2 | register 0 1 21 21 = 3 | register 0 0 0 9 = STATE | register 0 0 0 8 = 4
            register 0 0 22 999 = 5 | register 1 0 10 20 = 6
            """);
        e.edge(9, "with one club at most on one day", """
            club 0 0 | club 1 0 | person | register 0 0 0 499 = 1 | register 0 1 499 999 = STATE | register 0 1 500 999 = 2
            """);
        e.edge(9, "A person is REGISTERED with a club from a day to a day (both, too): how many spans there are.", """
            rules legs4;every1;field1; = 0 | clubs 2 | person | register 0 0 1 2 = 1 | enter 0 0 | enter 0 1 | plan 0 0 = 0
            eligible 0 0 0 = 1 | eligible 0 1 1 = 0 | eligible 0 2 0 = 0 | eligible 0 3 1 = 1
            """);
    }

    private static void officials(Edges e) {
        e.edge(10, "OFFICIALS (8 at most)", """
            7* official 0 0 = 0.. | official 0 0 = 7 | official 0 0 = ROOM | official 11 7 = ROOM | count 3 = 8
            """);
        e.edge(10, "OFFICIALS (8 at most)", """
            competition | clubs 2 | 2* enter 0 @ | plan 0 3 = 0 | 7* official 11 7 | official 1 7 = 7 | official 11 0 = ROOM
            official 0 1 = ROOM | assign 3 = 1 | officialOf 0 = 7
            """);
        e.edge(10, "have a HOME (0 to 11) and a COUNTRY", """
            official -1 0 = OUTSIDE | official 12 0 = OUTSIDE | official 0 -1 = OUTSIDE | official 0 8 = OUTSIDE
            official MIN 0 = OUTSIDE | official MAX 0 = OUTSIDE | official 0 MIN = OUTSIDE | official 0 MAX = OUTSIDE
            official 0 0 = 0 | official 11 7 = 1 | count 3 = 2
            """);
        e.edge(10, "An OFFICIAL: its number. OUTSIDE; ROOM.", """
            8* official 0 0 | official 12 0 = OUTSIDE | official 0 8 = OUTSIDE | official 0 0 = ROOM
            """);
    }

    private static void days(Edges e) {
        e.edge(11, "DAYS are 0 to 999", """
            day 1000 = OUTSIDE | day MAX = OUTSIDE | day -1 = OUTSIDE | day MIN = OUTSIDE | day 999 = 0 | day 999 = OUTSIDE
            day 1000 = OUTSIDE | day 0 = OUTSIDE | count 7 = 999
            """);
        e.edge(11, "OUTSIDE: also one that is not behind it", """
            day 0 = OUTSIDE | day 1 = 0 | day 1 = OUTSIDE | day 0 = OUTSIDE | day 2 = 1 | day 500 = 2 | day 500 = OUTSIDE
            day 499 = OUTSIDE | day 501 = 500 | count 7 = 501
            """);
    }

    private static void counts(Edges e) {
        e.edge(44, "7 TODAY. OUTSIDE.", """
            count -1 = OUTSIDE | count 8 = OUTSIDE | count MIN = OUTSIDE | count MAX = OUTSIDE | count 7 = 0 | day 999
            count 7 = 999
            """);
        e.edge(44, "How many: 0 clubs, 1 persons, 2 spans, 3 officials, 4 competitions, 5 matches", """
            6* count @ = 0
            clubs 3 | count 0 = 3 | 5* person | count 1 = 5 | register 4 0 0 0 | register 4 0 1 1 | count 2 = 2
            4* official 0 0 | count 3 = 4 | rules legs4; = 0 | count 4 = 1 | 3* enter 0 @ | count 5 = 0 | plan 0 0 = 0
            count 5 = 12 | count 0 = 3 | count 1 = 5 | count 2 = 2 | count 3 = 4 | count 4 = 1 | count 6 = 0
            """);
        e.edge(44, "6 rows of all matches (taken out ones and those aside, too)", """
            begun 1 field1;legs2; | count 6 = 0 | event 0 1 0 0 0 = 1 | event 0 1 0 0 0 = 2 | event 0 1 0 9 0 = -14
            count 6 = 2 | review 0 0 NONE 0 0 0 = 0 | rows 0 0 = 1 | count 6 = 2 | review 0 0 1 0 9 0 = 1 | rows 0 0 = 0
            rows 0 1 = 1 | count 6 = 2 | event 0 1 0 0 0 = 1 | count 6 = 3
            day 7 | lineUp 0 1 1 | lineUp 1 1 0 | start 1 = 1 | event 1 0 0 0 0 = 1 | count 6 = 4
            """);
    }
}
