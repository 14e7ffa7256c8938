import java.util.ArrayList;
import java.util.List;

/** Promises 29 to 31 and section 6: tables, places, keys, groups. */
final class EdgesStandings {
    /** 2 beats 1 by 2 to 1, 0 beats 2 by 3 to 0, 1 beats 0 by 2 to 0: 0 and 1 have +1 and 3 goals, 1 beat 0. */
    private static final String THREE = "every1;field1; | score 0 1 2 | score 1 0 3 | score 2 0 2\n";

    private EdgesStandings() {
    }

    static void tell(Edges e) {
        tableBounds(e);
        tableDays(e);
        nothingYet(e);
        whatCounts(e);
        pointsOfResults(e);
        places(e);
        standingBounds(e);
        partedBounds(e);
        groups(e);
        redo(e);
        totals(e);
        away(e);
        head(e);
        fair(e);
        headAnew(e);
        lots(e);
        lastStepOfLots(e);
        lotsOfGroups(e);
    }

    private static void tableBounds(Edges e) {
        e.edge(29, "UNKNOWN; OUTSIDE; STATE: it has not entered.", """
            table 0 0 0 0 = UNKNOWN | competition | table 0 0 0 0 = UNKNOWN | clubs 2 | table 0 0 0 0 = STATE | enter 0 0
            table 0 0 0 0 = 0 | table 1 0 0 0 = UNKNOWN | table -1 0 0 0 = UNKNOWN | table 0 0 2 0 = UNKNOWN
            table 0 0 -1 0 = UNKNOWN | table MIN 0 0 0 = UNKNOWN | table 0 0 MAX 0 = UNKNOWN | table 1 1000 0 8 = UNKNOWN
            table 0 0 0 -1 = OUTSIDE | table 0 0 0 8 = OUTSIDE | table 0 0 0 MIN = OUTSIDE | table 0 0 0 MAX = OUTSIDE
            table 0 0 1 8 = OUTSIDE | table 0 1000 1 0 = OUTSIDE | table 0 0 1 0 = STATE | table 0 0 1 7 = STATE
            """);
        e.edge(29, "DAYS are 0 to 999", """
            competition | club 0 0 | enter 0 0 | table 0 -1 0 0 = OUTSIDE | table 0 0 0 0 = 0 | table 0 999 0 0 = 0
            table 0 1000 0 0 = OUTSIDE | table 0 MIN 0 0 = OUTSIDE | table 0 MAX 0 0 = OUTSIDE
            """);
    }

    private static void tableDays(Edges e) {
        e.edge(29, "with days up to it", """
            league 2 0 legs2;every5; | walkOver 0 0 = 1 | day 5 | walkOver 1 0 = 1 | table 0 0 1 0 = 1 | table 0 4 1 0 = 1
            table 0 5 1 0 = 2 | table 0 999 1 0 = 2 | table 0 4 1 6 = 3 | table 0 5 1 6 = 3 | table 0 5 0 6 = 3
            """);
        e.edge(29, "with days up to it", """
            rules = 0 | clubs 2 | 2* enter 0 @ | plan 0 999 = 0 | day 999 | walkOver 0 0 = 1 | table 0 998 1 0 = 0 | table 0 999 1 0 = 1
            """);
        // The day on which it is now, not that of its round.
        e.edge(29, "with days up to it", """
            league 2 0 | postpone 0 50 = 0 | day 50 | walkOver 0 0 = 1 | table 0 49 1 0 = 0 | table 0 50 1 0 = 1
            """);
        e.edge(29, "less what was DEDUCTED up to that day", """
            competition | club 0 0 | enter 0 0 | deduct 0 0 1 | day 7 | deduct 0 0 2 | table 0 0 0 6 = -1 | table 0 6 0 6 = -1
            table 0 7 0 6 = -3
            """);
    }

    private static void nothingYet(Edges e) {
        e.edge(29, "Of each club that entered", """
            competition | clubs 3 | enter 0 2 | enter 0 0 | 7* table 0 0 2 @ = 0 | table 0 0 2 7 = 1 | table 0 0 0 7 = 1
            table 0 0 1 7 = STATE | standing 0 0 0 = 2 | standing 0 0 1 = 0 | parted 0 0 0 = NONE
            """);
        e.edge(29, "6 POINTS (perhaps below 0)", """
            competition | clubs 2 | 2* enter 0 @ | deduct 0 0 99 | deduct 0 0 99 | deduct 0 1 1 | table 0 0 0 6 = -198
            table 0 0 1 6 = -1 | table 0 0 1 7 = 1 | table 0 0 0 7 = 2
            """);
    }

    private static void whatCounts(Edges e) {
        e.edge(29, "by its matches that ENDED or were WALKED OVER", """
            begun 1 field1; | event 0 1 0 0 0 | table 0 0 0 0 = 0 | table 0 0 0 4 = 0 | whistles 0 | table 0 0 0 0 = 1
            table 0 0 0 1 = 1 | table 0 0 0 4 = 1 | table 0 0 1 3 = 1 | table 0 0 1 5 = 1
            """);
        e.edge(29, "(a match walked over counts WALKOVER to 0)", """
            league 2 0 walkover9;legs2;every1; | walkOver 0 1 = 1 | table 0 0 0 4 = 9 | table 0 0 0 5 = 0 | table 0 0 1 4 = 0
            table 0 0 1 5 = 9 | table 0 0 0 1 = 1 | table 0 0 1 3 = 1 | day 1 | walkOver 1 1 = 1 | table 0 1 1 4 = 9
            table 0 1 1 1 = 1 | table 0 1 0 3 = 1
            """);
        // Sets and runs are the score in other sports.
        e.edge(29, "The score are SETS", """
            begun 1 sport tennis;field1;target2; | 8* event 0 1 0 0 0 | event 0 6 0 0 0 | table 0 0 0 4 = 1 | table 0 0 0 5 = 2
            table 0 0 1 6 = 3
            """);
        e.edge(29, "The score are RUNS.", """
            begun 1 sport baseball;field1;target2; | 2* event 0 1 1 0 4 | 3* event 0 4 1 0 0 | event 0 1 0 0 4 | 3* event 0 4 0 0 0
            table 0 0 1 4 = 0 | 3* event 0 4 1 0 0 | 3* event 0 4 0 0 0 | table 0 0 1 4 = 2 | table 0 0 1 5 = 1 | table 0 0 1 1 = 1
            table 0 0 0 4 = 1 | table 0 0 0 3 = 1
            """);
        e.edge(29, "The score are SETS.", """
            begun 1 sport volleyball;field1;target2; | 2* event 0 1 1 0 0 | 6* event 0 1 0 0 0 | table 0 0 0 4 = 3 | table 0 0 0 5 = 1
            table 0 0 1 3 = 1
            """);
        // Of another competition nothing counts.
        e.edge(29, "STANDINGS of a competition on a day: by its matches", """
            2* competition | clubs 2 | 2* enter 0 @ | 2* enter 1 @ | plan 0 0 = 0 | plan 1 0 = 1 | walkOver 0 0 = 1
            table 0 0 1 6 = 3 | table 1 0 1 6 = 0 | table 1 0 1 0 = 0
            """);
    }

    private static void pointsOfResults(Edges e) {
        e.edge(29, "POINTS (W, D, L for these", """
            league 2 1 points 9 5 2;field1;every1;legs3; | score 0 1 0 | score 1 1 1 | score 2 0 1 | table 0 0 0 6 = 9
            table 0 0 1 6 = 2 | table 0 1 0 6 = 14 | table 0 1 1 6 = 7 | table 0 2 0 6 = 16 | table 0 2 1 6 = 16
            table 0 2 0 1 = 1 | table 0 2 0 2 = 1 | table 0 2 0 3 = 1 | table 0 2 0 0 = 3
            """);
        e.edge(29, "(for a win W, a draw D, a loss L, 0 to 9", """
            league 2 1 points 0 0 0;field1; | score 0 1 0 | table 0 0 0 6 = 0 | table 0 0 1 6 = 0 | table 0 0 0 7 = 1 | parted 0 0 0 = 1
            """);
    }

    private static void places(Edges e) {
        e.edge(29, "its place (1: none stands before it; those that SHARE have the same)", """
            competition | clubs 5 | 5* enter 0 @ | deduct 0 0 2 | deduct 0 1 1 | deduct 0 2 1 | deduct 0 3 2 | table 0 0 4 7 = 1
            table 0 0 1 7 = 2 | table 0 0 2 7 = 2 | table 0 0 0 7 = 4 | table 0 0 3 7 = 4
            """);
        e.edge(29, "those that SHARE have the same", """
            competition | clubs 12 | 12* enter 0 @ | 12* table 0 0 @ 7 = 1 | deduct 0 0 1 | table 0 0 0 7 = 12 | table 0 0 11 7 = 1
            """);
    }

    private static void standingBounds(Edges e) {
        e.edge(30, "UNKNOWN; OUTSIDE: the day; NONE: there is none such.", """
            standing 0 0 0 = UNKNOWN | competition | standing 0 0 0 = NONE | clubs 2 | standing 0 0 0 = NONE | enter 0 1
            standing 0 0 0 = 1 | standing 0 0 1 = NONE | standing 0 0 -1 = NONE | standing 0 0 MIN = NONE | standing 0 0 MAX = NONE
            standing 1 0 0 = UNKNOWN | standing -1 0 0 = UNKNOWN | standing MAX 0 0 = UNKNOWN | standing 1 1000 0 = UNKNOWN
            standing 0 -1 0 = OUTSIDE | standing 0 1000 0 = OUTSIDE | standing 0 MIN 0 = OUTSIDE | standing 0 MAX 9 = OUTSIDE
            standing 0 999 0 = 1
            """);
        e.edge(30, "The club at k, from 0 on, of the standings.", """
            competition | clubs 12 | 12* enter 0 @ | 12* standing 0 0 @ = 0.. | standing 0 0 12 = NONE | deduct 0 0 1
            standing 0 0 0 = 1 | standing 0 0 11 = 0
            """);
        e.edge(30, "(standing by the numbers in which they entered)", """
            competition | clubs 4 | enter 0 3 | enter 0 1 | enter 0 2 | enter 0 0 | standing 0 0 0 = 3 | standing 0 0 1 = 1
            standing 0 0 2 = 2 | standing 0 0 3 = 0 | deduct 0 1 1 | deduct 0 3 1 | standing 0 0 0 = 2 | standing 0 0 1 = 0
            standing 0 0 2 = 3 | standing 0 0 3 = 1
            """);
    }

    private static void partedBounds(Edges e) {
        e.edge(31, "NONE: they SHARE, or there are none such. UNKNOWN; OUTSIDE: the day.", """
            parted 0 0 0 = UNKNOWN | competition | parted 0 0 0 = NONE | clubs 3 | enter 0 0 | parted 0 0 0 = NONE | enter 0 1
            parted 0 0 0 = NONE | enter 0 2 | deduct 0 0 1 | parted 0 0 0 = NONE | parted 0 0 1 = 0 | parted 0 0 2 = NONE
            parted 0 0 3 = NONE | parted 0 0 -1 = NONE | parted 0 0 MIN = NONE | parted 0 0 MAX = NONE | parted 1 0 0 = UNKNOWN
            parted -1 0 0 = UNKNOWN | parted MIN 0 0 = UNKNOWN | parted 1 1000 0 = UNKNOWN | parted 0 -1 0 = OUTSIDE
            parted 0 1000 0 = OUTSIDE | parted 0 MAX 9 = OUTSIDE | parted 0 999 1 = 0
            """);
        e.edge(31, "or there are none such", """
            competition | clubs 12 | 12* enter 0 @ | 12* deduct 0 @ 1 | deduct 0 0 1 | parted 0 0 10 = 0 | parted 0 0 11 = NONE
            parted 0 0 12 = NONE | parted 0 0 13 = NONE | parted 0 0 9 = NONE
            """);
        e.edge(31, "0 POINTS, 1 the first KEY of order, and so on", """
            rules order diff,scored,wins,away,head,fair,lots; = 0 | clubs 2 | 2* enter 0 @ | parted 0 0 0 = 7 | deduct 0 0 1
            parted 0 0 0 = 0
            """);
        e.edge(31, "0 POINTS, 1 the first KEY of order, and so on", "league 3 1 points 1 1 1;order scored,diff;" + THREE
            + "parted 0 2 0 = NONE | parted 0 2 1 = 1 | standing 0 2 2 = 2");
    }

    /** The order of the clubs on day 999, their places, and the keys that parted them. */
    private static String stands(int[] clubs, int[] places, int... parted) {
        StringBuilder script = new StringBuilder("\n");
        for (int k = 0; k < clubs.length; k++) {
            script.append("standing 0 999 ").append(k).append(" = ").append(clubs[k]).append(" | table 0 999 ");
            script.append(clubs[k]).append(" 7 = ").append(places[k]).append('\n');
        }
        for (int k = 0; k < parted.length; k++) {
            script.append("parted 0 999 ").append(k).append(" = ").append(parted[k]).append('\n');
        }
        return script.toString();
    }

    private static void groups(Edges e) {
        // One class alone: the next key, among the same group.
        e.edge(30, "if the KEY made one class alone, by the next KEY", "league 3 1 order wins,head;" + THREE
            + stands(new int[] {0, 1, 2}, new int[] {1, 1, 3}, -1, 2));
        // Diff parts 2 from them; then 0 and 1 are a group of their own, in which 1 beat 0.
        e.edge(30, "without redo by the next one", "league 3 1 order diff,head;" + THREE
            + stands(new int[] {1, 0, 2}, new int[] {1, 2, 3}, 2, 1));
        e.edge(30, "behind the last KEY they SHARE their place", "league 3 1 order head;" + THREE
            + stands(new int[] {0, 1, 2}, new int[] {1, 1, 3}, -1, 1));
        e.edge(30, "the greater first", "league 3 1 order scored;" + THREE
            + stands(new int[] {0, 1, 2}, new int[] {1, 1, 3}, -1, 1));
        // Head, then diff: without redo head is not asked again among 0 and 1.
        e.edge(30, "without redo by the next one", "league 3 1 order head,diff,scored;" + THREE
            + stands(new int[] {0, 1, 2}, new int[] {1, 1, 3}, -1, 1));
        // POINTS come ahead of the keys of order.
        e.edge(30, "POINTS ahead of those of order", "league 3 1 order head;" + THREE + "deduct 0 1 1"
            + stands(new int[] {0, 2, 1}, new int[] {1, 2, 3}, 1, 0));
    }

    private static void redo(Edges e) {
        e.edge(30, "else with redo by all KEYS from POINTS on", "league 3 1 redo;order head;" + THREE
            + stands(new int[] {1, 0, 2}, new int[] {1, 2, 3}, 1, 1));
        // Parted by the third key, then all are asked from POINTS on: it is the second that parts 0 and 1.
        e.edge(30, "else with redo by all KEYS from POINTS on", "league 3 1 redo;order wins,head,diff;" + THREE
            + stands(new int[] {1, 0, 2}, new int[] {1, 2, 3}, 2, 2));
        e.edge(30, "redo (not)", "league 3 1 order wins,head,diff;" + THREE
            + stands(new int[] {0, 1, 2}, new int[] {1, 1, 3}, -1, 2));
        // With redo, too, those that no key parts share.
        e.edge(30, "behind the last KEY they SHARE their place", "league 3 1 redo;order diff,scored;" + THREE
            + stands(new int[] {0, 1, 2}, new int[] {1, 1, 3}, -1, 1));
    }

    private static void totals(Edges e) {
        // 0 beats 2 by 1 to 0, 1 beats 2 by 3 to 2; 0 and 1 drew 0 to 0. Matches: 1-2, 2-0, 0-1.
        String league = "every1;field1; | score 0 3 2 | score 1 0 1 | score 2 0 0";
        e.edge(30, "diff: scored less against", "league 3 1 order diff;" + league
            + stands(new int[] {0, 1, 2}, new int[] {1, 1, 3}, -1, 0));
        e.edge(30, "scored", "league 3 1 order scored;" + league + stands(new int[] {1, 0, 2}, new int[] {1, 2, 3}, 1, 0));
        // 1 point for all: 0 won none and lost none, 1 won one.
        e.edge(30, "wins", "league 3 1 points 1 1 1;order wins;every1;field1; | score 0 1 0 | score 1 0 0 | score 2 0 0"
            + stands(new int[] {1, 0, 2}, new int[] {1, 2, 2}, 1, -1));
        // A difference below 0 is less than one of 0, and -1 is more than -2.
        e.edge(30, "diff: scored less against", "league 3 1 points 1 1 1;order diff;every1;field1; | score 0 1 0 | score 1 0 0"
            + " | score 2 0 2" + stands(new int[] {1, 2, 0}, new int[] {1, 2, 3}, 1, 1));
    }

    private static void away(Edges e) {
        e.edge(30, "away: scored away from home (also in matches walked over)", "league 2 1 order away;legs2;every1;field1;"
            + " | score 0 2 1 | score 1 1 0" + stands(new int[] {1, 0}, new int[] {1, 2}, 1));
        e.edge(30, "away: scored away from home (also in matches walked over)", """
            league 2 0 points 1 1 1;order away; | walkOver 0 0 = 1 | standing 0 0 0 = 1 | parted 0 0 0 = 1
            """);
        e.edge(30, "away: scored away from home (also in matches walked over)", """
            league 2 0 points 1 1 1;order away; | walkOver 0 1 = 1 | standing 0 0 0 = 0 | parted 0 0 0 = NONE | table 0 0 1 7 = 1
            """);
    }

    private static void head(Edges e) {
        // 0: 1 goal at home, lost 0 to 5 away, 1 goal at home: two wins against one, but 3 points less.
        e.edge(30, "POINTS (nothing deducted), of equals diff, of equals scored", "league 2 1 order head;legs3;every1;field1;"
            + " | score 0 1 0 | score 1 5 0 | score 2 1 0 | deduct 0 0 3" + stands(new int[] {0, 1}, new int[] {1, 2}, 1));
        e.edge(30, "of equals diff, of equals scored", "league 3 1 order head;every1;field1; | score 0 5 4 | score 1 1 0"
            + " | score 2 2 0" + stands(new int[] {0, 2, 1}, new int[] {1, 2, 3}, 1, 1));
        e.edge(30, "of equals scored: three KEYS that are one", "league 3 1 order head;every1;field1; | score 0 2 1"
            + " | score 1 1 0 | score 2 1 0" + stands(new int[] {1, 2, 0}, new int[] {1, 1, 3}, -1, 1));
        // 0 and 1 are level on points with 2 behind: only their own match counts, which 1 won.
        e.edge(30, "among matches between two of the GROUP alone", "league 3 1 order head;every1;field1; | score 0 0 0"
            + " | score 1 0 9 | score 2 0 1 | deduct 0 1 1" + stands(new int[] {1, 0, 2}, new int[] {1, 2, 3}, 1, 0));
        // What was never played counts nothing.
        e.edge(30, "head: among matches between two of the GROUP alone", "league 3 0 order head;"
            + stands(new int[] {0, 1, 2}, new int[] {1, 1, 1}, -1, -1));
    }

    private static void headAnew(Edges e) {
        // What another competition, or a later day, was asked for before is not in it.
        e.edge(30, "among matches between two of the GROUP alone", """
            rules points 0 0 0;order head;every1; = 0 | rules points 0 0 0;order head;every1; = 1 | clubs 3 | 3* enter 0 @
            3* enter 1 @ | plan 0 0 = 0 | plan 1 5 = 3 | walkOver 0 1 = 1 | day 1 | walkOver 1 0 = 1 | parted 0 1 0 = NONE
            parted 0 1 1 = 1 | standing 0 1 2 = 2 | parted 1 1 0 = NONE | parted 1 1 1 = NONE | table 1 999 2 7 = 1
            standing 0 0 0 = 1 | standing 0 0 1 = 0 | standing 0 0 2 = 2
            """);
        e.edge(30, "POINTS (nothing deducted)", """
            rules order head; = 0 | rules order head; = 1 | clubs 2 | 2* enter 0 @ | 2* enter 1 @ | plan 0 0 = 0 | walkOver 0 0 = 1
            deduct 0 1 3 | parted 0 0 0 = 1 | standing 0 0 0 = 1 | parted 1 0 0 = NONE | standing 1 0 0 = 0
            """);
        // Twelve clubs of which two have met: the eleven behind the winner have no match between two of them.
        e.edge(30, "head: among matches between two of the GROUP alone", """
            league 12 0 order head;every1; | 12* table 0 0 @ 7 = 1 | walkOver 0 0 = 1 | standing 0 0 0 = 11 | table 0 0 0 7 = 2
            table 0 0 10 7 = 2 | parted 0 0 0 = 0 | parted 0 0 1 = NONE | parted 0 0 10 = NONE
            """);
    }

    private static void fair(Edges e) {
        String begin = "begun 3 points 1 1 1;order fair;field3; | ";
        e.edge(30, "fair: less is better: 1 for each YELLOW", begin + "event 0 3 0 0 0 | whistles 0"
            + stands(new int[] {1, 0}, new int[] {1, 2}, 1));
        e.edge(30, "3 for each sent off", begin + "event 0 4 0 0 0 | event 0 3 1 3 0 | event 0 3 1 4 0 | whistles 0"
            + stands(new int[] {1, 0}, new int[] {1, 2}, 1));
        e.edge(30, "3 for each sent off", begin + "event 0 4 0 0 0 | event 0 3 1 3 0 | event 0 3 1 4 0 | event 0 3 1 5 0"
            + "\nwhistles 0" + stands(new int[] {0, 1}, new int[] {1, 1}, -1));
        // Two yellows of one are 2 and 3, a red with a yellow is 4.
        e.edge(30, "yellows of one who was sent off count, too", begin + "event 0 3 0 0 0 | event 0 3 0 0 0 | event 0 3 1 3 0"
            + "\nevent 0 4 1 3 0 | event 0 3 1 4 0 | whistles 0" + stands(new int[] {0, 1}, new int[] {1, 1}, -1));
        e.edge(30, "(in a match ended", begin + "event 0 3 0 0 0 | 2* event 0 0 0 0 0 | table 0 0 0 7 = 1 | event 0 0 0 0 0"
            + "\ntable 0 0 0 7 = 2");
        // Who was substituted was not sent off.
        e.edge(30, "3 for each sent off", """
            begun 2 points 1 1 1;order fair;field1; | event 0 5 0 0 1 | whistles 0 | table 0 0 0 7 = 1 | table 0 0 1 7 = 1
            """);
        // Full sheets of ten on both sides; the last of one side and the first of the other have a yellow each.
        e.edge(30, "of those that were of the club on its sheets", """
            begun 10 points 1 1 1;order fair;field6; | event 0 5 0 0 9 | event 0 3 0 9 0 | event 0 3 1 10 0 | whistles 0
            table 0 0 0 7 = 1 | table 0 0 1 7 = 1 | parted 0 0 0 = NONE
            """);
        e.edge(30, "of those that were of the club on its sheets", """
            begun 10 points 1 1 1;order fair;field6; | event 0 3 1 10 0 | whistles 0 | table 0 0 0 7 = 1 | table 0 0 1 7 = 2
            """);
        // What another competition, or a later day, was asked for before is not in it.
        e.edge(30, "fair: less is better", """
            rules points 1 1 1;order fair;field1; = 0 | rules points 1 1 1;order fair;field1; = 1 | clubs 2 | 2* person
            register 0 0 0 999 | register 1 1 0 999 | 2* enter 0 @ | 2* enter 1 @ | plan 0 5 = 0 | plan 1 5 = 1 | lineUp 0 0 0
            lineUp 1 0 1 | day 5 | start 0 = 1 | event 0 3 0 0 0 | whistles 0 | walkOver 1 0 = 1 | parted 0 5 0 = 1
            parted 1 5 0 = NONE | parted 0 5 0 = 1 | parted 0 4 0 = NONE | standing 0 5 0 = 1 | standing 1 5 0 = 0
            """);
        // Substituted, it was of the club on its sheet all the same.
        e.edge(30, "of those that were of the club on its sheets", """
            begun 2 points 1 1 1;order fair;field1; | event 0 3 0 0 0 | event 0 5 0 0 1 | whistles 0 | table 0 0 0 7 = 2
            """);
    }

    /** A lot by sums of whole numbers whose lowest 32 bits are kept. */
    private static long lot(long seed, long group, long club) {
        long whole = 0xffffffffL;
        long x = (seed * 1000003 + group) * 31 + club & whole;
        for (int k = 0; k < 3; k++) {
            x ^= x >> 16;
            x = k < 2 ? x * 73244475 & whole : x;
        }
        return x & 0x7fffffffL;
    }

    /** The order of clubs of one group by lots. */
    static int[] lotOrder(int seed, int... clubs) {
        int group = 0;
        List<Integer> order = new ArrayList<>();
        for (int club : clubs) {
            group |= 1 << club;
            order.add(club);
        }
        int bits = group;
        order.sort((a, b) -> Long.compare(lot(seed, bits, b), lot(seed, bits, a)));
        return order.stream().mapToInt(Integer::intValue).toArray();
    }

    private static void lots(Edges e) {
        String words = "three times: x = x xor (x shifted right by 16, without sign), and, but the third time, "
            + "x = x * 73244475; 32 bits, wrapping; the lowest 31 bits";
        for (int seed : new int[] {0, 1, 2, 68, 69, 70, 499, 540, 998, 999}) {
            int[] all = lotOrder(seed, 0, 1, 2, 3, 4, 5, 6, 7, 8, 9, 10, 11);
            int[] two = lotOrder(seed, 4, 6);
            StringBuilder script = new StringBuilder("rules order lots;seed " + seed + "; = 0 | rules order lots;seed " + seed
                + "; = 1 | clubs 12 | 12* enter 0 @ | enter 1 4 | enter 1 6\n");
            for (int k = 0; k < 12; k++) {
                script.append("standing 0 0 ").append(k).append(" = ").append(all[k]).append(" | table 0 0 ").append(all[k]);
                script.append(" 7 = ").append(k + 1).append('\n');
            }
            script.append("standing 1 0 0 = ").append(two[0]).append(" | standing 1 0 1 = ").append(two[1]);
            e.edge(30, words, script.toString());
        }
    }

    private static void lastStepOfLots(Edges e) {
        // Of these seeds and clubs the highest bits are alike, so that the last step alone tells who is first.
        int[][] near = {{540, 4, 6}, {693, 4, 6}, {229, 1, 7}, {454, 4, 7}, {856, 1, 5}};
        for (int[] n : near) {
            int[] two = lotOrder(n[0], n[1], n[2]);
            e.edge(30, "and, but the third time, x = x * 73244475", "rules order lots;seed " + n[0] + "; = 0 | clubs 8 | enter 0 "
                + n[1] + " | enter 0 " + n[2] + stands(two, new int[] {1, 2}, 1));
        }
    }

    private static void lotsOfGroups(Edges e) {
        // Clubs 1 and 2 are a group once 0 has less: their lots are those of that group.
        for (int seed = 0; seed < 6; seed++) {
            int[] two = lotOrder(seed, 1, 2);
            e.edge(30, "the GROUP as bits by clubs' numbers", "rules order lots;seed " + seed + "; = 0 | clubs 3"
                + "\n3* enter 0 @ | deduct 0 0 1" + stands(new int[] {two[0], two[1], 0}, new int[] {1, 2, 3}, 1, 0));
        }
    }
}
