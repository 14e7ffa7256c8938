/** Promises 42 and 43 and section 9: officials that are matched with the matches of a day. */
final class EdgesOfficials {
    private EdgesOfficials() {
    }

    static void tell(Edges e) {
        assignBounds(e);
        nothingAndFull(e);
        countries(e);
        mostMatches(e);
        distances(e);
        firstRow(e);
        officialBounds(e);
        keeps(e);
    }

    /** Matches on day 3, the home clubs in the stadiums told and of country 0, those away of country 1. */
    private static String day(int... stadiums) {
        StringBuilder script = new StringBuilder();
        for (int k = 0; k < stadiums.length; k++) {
            script.append("competition | club ").append(stadiums[k]).append(" 0 | club 11 1 | enter ").append(k).append(' ');
            script.append(2 * k).append(" | enter ").append(k).append(' ').append(2 * k + 1);
            script.append(" | plan ").append(k).append(" 3 = ").append(k).append('\n');
        }
        return script.toString();
    }

    private static void assignBounds(Edges e) {
        e.edge(42, "Matches of a day get OFFICIALS: how many have one. OUTSIDE.", """
            assign -1 = OUTSIDE | assign 1000 = OUTSIDE | assign MIN = OUTSIDE | assign MAX = OUTSIDE | assign 0 = 0 | assign 999 = 0
            """);
        e.edge(42, "DAYS are 0 to 999", """
            2* competition | clubs 2 | 2* enter 0 @ | 2* enter 1 @ | plan 0 0 = 0 | plan 1 999 = 1 | official 0 7 | assign 0 = 1
            officialOf 0 = 0 | officialOf 1 = NONE | assign 1000 = OUTSIDE | assign 999 = 1 | officialOf 1 = 0 | officialOf 0 = 0
            """);
    }

    private static void nothingAndFull(Edges e) {
        e.edge(42, "each match of that day that is TOLD or goes on may have one", """
            league 2 1 field1;legs3;every1; | official 0 7 | assign 0 = 1 | 2* lineUp @ 0 @ | start 0 = 1 | assign 0 = 1 | whistles 0
            assign 0 = 0 | officialOf 0 = 0 | day 1 | walkOver 1 0 = 1 | assign 1 = 0 | officialOf 1 = NONE | assign 2 = 1
            """);
        e.edge(42, "each official one match", day(0, 0) + """
            assign 3 = 0 | official 0 7 | assign 3 = 1 | officialOf 0 = 0 | officialOf 1 = NONE | official 0 7 | assign 3 = 2
            officialOf 0 = 0 | officialOf 1 = 1 | official 0 7 | assign 3 = 2
            """);
        // Twelve matches of a day and eight officials, who are all in stadium 11: those nearest to it have one.
        e.edge(42, "each official one match", """
            2* competition | 12* club @ 0 | 12* enter 0 @ | 12* enter 1 @ | plan 0 3 = 0 | plan 1 3 = 66 | 8* official 11 1
            assign 3 = 8 | officialOf 0 = NONE | officialOf 1 = NONE | officialOf 2 = 0 | officialOf 3 = 1 | officialOf 4 = 2
            officialOf 5 = 3 | officialOf 66 = NONE | officialOf 67 = NONE | officialOf 68 = 4 | officialOf 69 = 5
            officialOf 70 = 6 | officialOf 71 = 7 | officialOf 72 = NONE
            """);
    }

    private static void countries(Edges e) {
        e.edge(42, "neither of whose clubs has its COUNTRY", day(5) + """
            official 5 0 | assign 3 = 0 | officialOf 0 = NONE | official 5 1 | assign 3 = 0 | official 11 2 | assign 3 = 1
            officialOf 0 = 2
            """);
    }

    private static void mostMatches(Edges e) {
        // Official 0 is at hand for match 0, but 1 can have no other: two have one, however far.
        e.edge(42, "Of all ways those with the most matches that have one", """
            2* competition | club 0 0 | club 0 1 | club 11 2 | club 11 3 | enter 0 0 | enter 0 1 | enter 1 2 | enter 1 3
            plan 0 3 = 0 | plan 1 3 = 1 | official 0 4 | official 0 2 | assign 3 = 2 | officialOf 0 = 1 | officialOf 1 = 0
            """);
    }

    private static void distances(Edges e) {
        e.edge(42, "of these with the least sum of distances (the size of HOME less STADIUM)", day(5, 7)
            + "official 6 2 | official 0 2 | assign 3 = 2 | officialOf 0 = 1 | officialOf 1 = 0");
        e.edge(42, "(the size of HOME less STADIUM)", day(5) + """
            official 8 2 | official 3 2 | assign 3 = 1 | officialOf 0 = 1 | official 6 2 | assign 3 = 1 | officialOf 0 = 2 | official 4 2
            assign 3 = 1 | officialOf 0 = 2
            """);
        e.edge(42, "(the size of HOME less STADIUM)", day(0, 11) + """
            official 11 2 | official 0 2 | assign 3 = 2 | officialOf 0 = 1 | officialOf 1 = 0
            """);
        // One official for two matches goes where the way is shorter.
        e.edge(42, "of these with the least sum of distances", day(4, 3)
            + "official 3 2 | assign 3 = 1 | officialOf 0 = NONE | officialOf 1 = 0");
    }

    private static void firstRow(Edges e) {
        e.edge(42, "of these the first row, by matches' numbers, of officials (who has none counts as 8)", day(4, 4, 4)
            + "official 5 2 | official 3 2 | assign 3 = 2 | officialOf 0 = 0 | officialOf 1 = 1 | officialOf 2 = NONE");
        // The eighth official, number 7, comes before none.
        e.edge(42, "(who has none counts as 8)", day(4, 4) + """
            7* official 4 0 | official 4 2 | assign 3 = 1 | officialOf 0 = 7 | officialOf 1 = NONE
            """);
        e.edge(42, "of these the first row", day(4, 6) + """
            official 5 2 | official 5 2 | assign 3 = 2 | officialOf 0 = 0 | officialOf 1 = 1
            """);
    }

    private static void officialBounds(Edges e) {
        e.edge(43, "NONE. UNKNOWN.", """
            officialOf 0 = UNKNOWN | league 2 0 legs2;every1; | officialOf 0 = NONE | officialOf 1 = NONE | officialOf 2 = UNKNOWN
            officialOf -1 = UNKNOWN | officialOf MIN = UNKNOWN | officialOf MAX = UNKNOWN | assign 0 = 0 | officialOf 0 = NONE
            official 0 7 | officialOf 0 = NONE | assign 0 = 1 | officialOf 0 = 0 | officialOf 1 = NONE
            """);
    }

    private static void keeps(Edges e) {
        e.edge(43, "The official that a match got by the latest assign() that was for it", day(5) + """
            official 8 2 | assign 3 = 1 | officialOf 0 = 0 | official 5 2 | officialOf 0 = 0 | assign 3 = 1 | officialOf 0 = 1
            assign 4 = 0 | officialOf 0 = 1
            """);
        // A later one that is for it may leave it without any.
        e.edge(43, "by the latest assign() that was for it", day(3, 4) + """
            official 4 2 | postpone 0 9 = 0 | assign 9 = 1 | officialOf 0 = 0 | postpone 0 3 = 0 | assign 3 = 1 | officialOf 1 = 0
            officialOf 0 = NONE
            """);
        // What was reckoned for two matches is not in what is reckoned for one.
        e.edge(42, "Matches of a day get OFFICIALS", day(5, 0) + """
            official 0 2 | assign 3 = 1 | officialOf 0 = NONE | officialOf 1 = 0 | postpone 1 9 = 0 | assign 3 = 1 | officialOf 0 = 0
            officialOf 1 = 0 | official 5 2 | assign 9 = 1 | assign 3 = 1 | officialOf 0 = 1
            """);
        e.edge(43, "others keep what they have, also when they are postponed or end", """
            league 2 1 field1;legs2;every1; | official 0 7 | assign 0 = 1 | assign 1 = 1 | postpone 1 9 = 0 | officialOf 1 = 0
            assign 1 = 0 | officialOf 1 = 0 | 2* lineUp @ 0 @ | start 0 = 1 | whistles 0 | officialOf 0 = 0 | assign 0 = 0
            officialOf 0 = 0 | day 9 | walkOver 1 0 = 1 | assign 9 = 0 | officialOf 1 = 0
            """);
    }
}
