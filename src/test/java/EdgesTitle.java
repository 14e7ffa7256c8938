/** Promises 32 to 35 and section 7: who can be first, the witness, the cut, firsts. */
final class EdgesTitle {
    private EdgesTitle() {
    }

    static void tell(Edges e) {
        canBounds(e);
        canByPoints(e);
        whenItIsTold(e);
        witnessBounds(e);
        witnessRows(e);
        witnessOfTheLatest(e);
        cutBounds(e);
        caps(e);
        cuts(e);
        byTrying(e);
        firstsBounds(e);
        firstsRows(e);
        firstsByKeys(e);
    }

    private static void canBounds(Edges e) {
        e.edge(32, "UNKNOWN; STATE: it has not entered, or it is not planned.", """
            can 0 0 = UNKNOWN | 2* competition | can 0 0 = UNKNOWN | clubs 3 | can 0 0 = STATE | enter 0 0 | enter 0 1 | enter 1 2
            can 0 0 = STATE | plan 0 0 = 0 | can 0 0 = 1 | can 0 1 = 1 | can 0 2 = STATE | can 1 2 = STATE | can 2 0 = UNKNOWN
            can 0 3 = UNKNOWN | can -1 0 = UNKNOWN | can 0 -1 = UNKNOWN | can MIN 0 = UNKNOWN | can 0 MAX = UNKNOWN
            """);
    }

    private static void canByPoints(Edges e) {
        // 3 points deducted of 3 that can be won: level is enough, one more is not.
        e.edge(32, "such that no club has more than it", """
            league 2 0 legs2;every1; | walkOver 0 0 = 1 | can 0 0 = 1 | deduct 0 0 1 | can 0 0 = 0 | can 0 1 = 1 | deduct 0 1 1
            can 0 0 = 1
            """);
        e.edge(32, "on POINTS, with all that was DEDUCTED", """
            league 2 0 | deduct 0 0 3 | can 0 0 = 1 | deduct 0 0 1 | can 0 0 = 0 | day 900 | deduct 0 1 1 | can 0 0 = 1
            """);
        // With nothing left it is what the points are.
        e.edge(32, "Whether a club can be first: 1, 0", """
            league 2 0 | walkOver 0 0 = 1 | can 0 1 = 1 | can 0 0 = 0 | deduct 0 1 3 | can 0 0 = 1 | can 0 1 = 1 | deduct 0 1 1
            can 0 0 = 1 | can 0 1 = 0
            """);
        e.edge(32, "of the matches of the competition that are TOLD or go on", """
            begun 1 field1; | 5* event 0 1 0 0 0 | can 0 1 = 1 | whistles 0 | can 0 1 = 0 | can 0 0 = 1 | review 0 7 NONE 0 0 0 = 0
            can 0 1 = 1
            """);
        // 1 and 2 meet twice: they draw both times if 0, that has 2 points, is to be first.
        e.edge(32, "if there are results of the matches", """
            league 3 0 | deduct 0 0 4 | can 0 0 = 1 | witness 0 = 1 | deduct 0 0 1 | can 0 0 = 1 | deduct 0 0 1 | can 0 0 = 0
            """);
    }

    private static void whenItIsTold(Edges e) {
        // Four clubs in three legs: nine matches without a club.
        e.edge(32, "the others that are left (without the club) are 8 at most", """
            league 4 0 legs3;every1; | can 0 3 = 2 | witness 0 = NONE | cut = 0 | walkOver 0 0 = 1 | can 0 3 = 2 | can 0 0 = 2
            walkOver 1 0 = 1 | can 0 3 = 1 | can 0 0 = 1 | can 0 1 = 1 | can 0 2 = 1
            """);
        // What goes on is left as what is told is.
        e.edge(32, "2: it is not told", """
            league 4 1 legs3;every1;field1; | lineUp 1 1 0 | lineUp 2 1 1 | start 1 = 1 | can 0 3 = 2 | whistles 1 | can 0 3 = 1
            """);
        e.edge(32, "with W + L = 2 D 40", """
            league 6 0 points 2 1 0;legs4;every1; | can 0 5 = 1 | cut = 0
            """);
        // Eight clubs in two legs: 42 without a club; of round 0 match 0 is that of clubs 0 and 7.
        e.edge(32, "with W + L = 2 D 40", """
            league 8 0 points 6 4 2;legs2;every1; | can 0 7 = 2 | walkOver 1 0 = 1 | can 0 7 = 2 | walkOver 0 0 = 1 | can 0 7 = 2
            witness 5 = NONE | cut = 0 | walkOver 2 0 = 1 | can 0 7 = 1
            """);
        // Forty are left, and club 5 has no chance: each of the others has more than it at once.
        e.edge(34, "with W + L = 2 D 40", """
            league 6 0 points 2 1 0;legs4;every1; | deduct 0 5 41 | can 0 5 = 0 | cut = 1 | deduct 0 0 99 | can 0 5 = 0 | cut = 2
            """);
        e.edge(32, "with W + L = 2 D 40", twelve("points 2 1 0;", 3) + "can 0 11 = 1 | deduct 0 11 99 | can 0 11 = 0");
        e.edge(32, "with W + L = 2 D 40", twelve("points 2 1 0;", 2) + "can 0 11 = 2 | deduct 0 11 99 | can 0 11 = 2");
        e.edge(32, "are 8 at most", twelve("", 9) + "can 0 11 = 2 | deduct 0 11 99 | can 0 11 = 2 | day 9 | walkOver 55 0 = 1"
            + " | can 0 11 = 2 | walkOver 54 0 = 1 | can 0 11 = 2 | walkOver 56 0 = 1 | can 0 11 = 0 | cut = 0");
        e.edge(32, "with W + L = 2 D 40", """
            league 4 0 points 3 2 0;legs3;every1; | can 0 3 = 2 | walkOver 1 0 = 1 | can 0 3 = 1
            """);
    }

    /** Twelve clubs, and so many rounds of which each match was walked over by the side away. */
    private static String twelve(String text, int rounds) {
        StringBuilder script = new StringBuilder("league 12 0 every1;" + text + "\n");
        for (int m = 0; m < 6 * rounds; m++) {
            script.append(m > 0 && m % 6 == 0 ? "day " + m / 6 + " | " : "").append("walkOver ").append(m).append(" 1 = 1\n");
        }
        return script.toString();
    }

    private static void witnessBounds(Edges e) {
        e.edge(33, "NONE: it was not left, or is of another competition; UNKNOWN.", """
            witness 0 = UNKNOWN | 2* competition | clubs 2 | 2* enter 0 @ | 2* enter 1 @ | plan 0 0 = 0 | witness 0 = NONE
            witness 1 = UNKNOWN | witness -1 = UNKNOWN | witness MIN = UNKNOWN | witness MAX = UNKNOWN | can 0 0 = 1 | witness 0 = 0
            plan 1 0 = 1 | witness 1 = NONE | can 1 1 = 1 | witness 0 = NONE | witness 1 = 2 | witness 2 = UNKNOWN
            """);
        e.edge(33, "NONE: it was not left", """
            league 2 0 legs2;every1; | walkOver 0 0 = 1 | can 0 0 = 1 | witness 0 = NONE | witness 1 = 2 | day 1 | walkOver 1 1 = 1
            witness 1 = 2 | can 0 1 = 1 | witness 1 = NONE
            """);
        e.edge(33, "(NONE, if that did not answer 1)", """
            league 2 0 legs2;every1; | deduct 0 0 9 | can 0 1 = 1 | witness 0 = 2 | can 0 0 = 0 | witness 0 = NONE | witness 1 = NONE
            """);
    }

    private static void witnessRows(Edges e) {
        // 0: 0-3, 1: 1-2, 2: 3-1, 3: 2-0, 4: 2-3, 5: 0-1.
        e.edge(33, "(0 home, 1 draw, 2 away, in every sport; by matches' numbers, all that are left, the club's own ones, too) "
            + "the first one", """
            league 4 0 sport tennis; | can 0 3 = 1 | witness 0 = 2 | witness 1 = 0 | witness 2 = 0 | witness 3 = 0 | witness 4 = 2
            witness 5 = 0
            """);
        // With 2 points in the end, all others have to draw; with 3 the first row has home wins.
        e.edge(33, "the first one", """
            league 4 0 | deduct 0 3 7 | can 0 3 = 1 | witness 1 = 1 | witness 3 = 1 | witness 5 = 1 | witness 0 = 2 | witness 2 = 0
            deduct 0 0 9 | deduct 0 1 9 | deduct 0 2 9 | can 0 3 = 1 | witness 1 = 0 | witness 3 = 0 | witness 5 = 0
            """);
        // Even points: caps 3, 2, 1 for clubs 0, 1, 2.
        e.edge(33, "the first one", """
            league 4 0 points 2 1 0; | deduct 0 3 5 | deduct 0 0 2 | deduct 0 1 1 | can 0 3 = 1 | witness 1 = 0 | witness 3 = 1
            witness 5 = 0
            """);
        e.edge(33, "the first one", """
            league 3 0 points 2 1 0; | deduct 0 0 3 | can 0 0 = 1 | witness 0 = 1 | deduct 0 2 1 | can 0 0 = 1 | witness 0 = 1
            deduct 0 1 1 | can 0 0 = 1 | witness 0 = 0 | deduct 0 0 1 | can 0 0 = 1 | witness 0 = 1 | deduct 0 2 1 | can 0 0 = 1
            witness 0 = 1 | deduct 0 2 9 | can 0 0 = 1 | witness 0 = 1 | deduct 0 0 1 | can 0 0 = 1 | witness 0 = 2
            """);
        e.edge(33, "In its own it wins.", """
            league 2 0 | deduct 0 1 99 | can 0 0 = 1 | witness 0 = 0 | deduct 0 0 99 | can 0 1 = 1 | witness 0 = 2
            """);
    }

    private static void witnessOfTheLatest(Edges e) {
        e.edge(33, "Of THE WITNESS of the latest can() that was not refused", """
            league 3 0 every1; | can 0 0 = 1 | witness 1 = 2 | can 0 3 = UNKNOWN | witness 1 = 2 | can 1 0 = UNKNOWN | witness 2 = 0
            can 0 2 = 1 | witness 1 = 0 | club 0 0 | can 0 3 = STATE | witness 1 = 0 | standing 0 0 0 = 0 | witness 1 = 0
            """);
    }

    private static void cutBounds(Edges e) {
        e.edge(34, "0: it did not answer 0, or W + L is not 2 D", """
            cut = 0 | league 2 0 points 2 1 0; | cut = 0 | can 0 0 = 1 | cut = 0 | deduct 0 0 3 | can 0 0 = 0 | cut = 2 | can 0 1 = 1
            cut = 0
            """);
        e.edge(34, "or W + L is not 2 D", """
            league 2 0 points 3 2 0; | deduct 0 0 9 | can 0 0 = 0 | cut = 0
            """);
        e.edge(34, "0: it did not answer 0", """
            league 8 0 points 2 1 0;legs2;every1; | deduct 0 7 99 | can 0 7 = 2 | cut = 0
            """);
        e.edge(34, "THE CUT of the latest can() that was not refused", """
            league 3 0 points 2 1 0; | deduct 0 0 9 | can 0 0 = 0 | cut = 2 | can 0 3 = UNKNOWN | cut = 2 | can 1 0 = UNKNOWN
            cut = 2 | firsts 0 0 = 0 | cut = 2 | club 0 0 | can 0 3 = STATE | cut = 2 | deduct 0 1 9 | cut = 2 | can 0 0 = 0 | cut = 4
            """);
    }

    private static void caps(Edges e) {
        // Two clubs, one match left: BEST is 2 less what was deducted; the other's SPARE is BEST.
        e.edge(34, "its CAP is -1 if SPARE is below 0", """
            league 2 0 points 2 1 0; | deduct 0 0 2 | can 0 0 = 1 | cut = 0 | deduct 0 0 1 | can 0 0 = 0 | cut = 2
            """);
        // 3 2 1: the other has a loss to come, 1 point.
        e.edge(34, "less L for each match left that it has, also with the club", """
            league 2 0 points 3 2 1; | deduct 0 0 2 | can 0 0 = 1 | cut = 0 | deduct 0 0 1 | can 0 0 = 0 | cut = 2
            """);
        e.edge(34, "else 1000 if W is D", """
            league 4 0 points 1 1 1; | can 0 3 = 1 | cut = 0 | deduct 0 3 1 | can 0 3 = 0 | cut = 1 | deduct 0 0 1 | can 0 3 = 0 | cut = 2
            deduct 0 1 1 | deduct 0 2 1 | can 0 3 = 1 | cut = 0
            """);
        // 4 2 0: SPARE 3 is one part of 2; three clubs have three parts, but six are needed. SPARE 4 is two.
        e.edge(34, "else SPARE / (W - D) cut", """
            league 4 0 points 4 2 0; | deduct 0 3 9 | can 0 3 = 0 | cut = 7 | deduct 0 0 1 | can 0 3 = 0 | cut = 7
            deduct 0 1 1 | can 0 3 = 0 | cut = 7 | deduct 0 2 1 | can 0 3 = 1 | cut = 0
            """);
    }

    private static void cuts(Edges e) {
        // Caps of two each are six, as many as twice the three matches: no cut.
        e.edge(34, "if its CAPS together are less than twice the matches left between two of it", """
            league 4 0 points 2 1 0; | deduct 0 3 4 | can 0 3 = 1 | cut = 0 | deduct 0 3 1 | can 0 3 = 0 | cut = 7
            """);
        e.edge(34, "THE CUT is the one of the least number (as bits by clubs' numbers", """
            league 4 0 points 2 1 0; | deduct 0 3 6 | can 0 3 = 0 | cut = 3 | deduct 0 3 1 | can 0 3 = 0 | cut = 1 | deduct 0 0 1
            can 0 3 = 0 | cut = 2 | deduct 0 1 1 | can 0 3 = 0 | cut = 3 | deduct 0 2 1 | can 0 3 = 0 | cut = 3 | deduct 0 0 2
            can 0 3 = 0 | cut = 6
            """);
        // By clubs' numbers, not by places: 5, 2, 7 and 11 entered in this order.
        e.edge(34, "as bits by clubs' numbers", """
            rules points 2 1 0; = 0 | clubs 12 | enter 0 5 | enter 0 11 | enter 0 7 | enter 0 2 | plan 0 0 = 0 | deduct 0 2 6
            can 0 2 = 0 | cut = 160 | deduct 0 2 1 | can 0 2 = 0 | cut = 32 | deduct 0 5 9 | can 0 2 = 0 | cut = 128
            deduct 0 7 9 | can 0 2 = 0 | cut = 2048
            """);
    }

    private static void byTrying(Edges e) {
        int[][] rules = {{3, 1, 0}, {2, 1, 0}, {4, 2, 0}, {3, 2, 1}, {3, 2, 0}, {1, 1, 1}, {2, 2, 0}, {6, 3, 1}};
        int[][] less = {{0, 0, 0}, {0, 1, 2}, {2, 0, 1}, {3, 1, 0}};
        for (int[] points : rules) {
            for (int[] gone : less) {
                for (int own = 0; own <= 3 * points[0] + 1; own++) {
                    tryAll(e, points, new int[] {gone[0], gone[1], gone[2], own});
                }
            }
        }
        int[][] five = {{2, 1, 0}, {4, 2, 0}, {5, 3, 1}, {3, 1, 0}};
        int[][] fewer = {{0, 0, 0, 0}, {4, 3, 1, 0}, {0, 1, 3, 4}, {3, 0, 4, 1}, {1, 4, 0, 3}, {0, 6, 0, 2}, {5, 0, 2, 0}};
        for (int[] points : five) {
            for (int[] gone : fewer) {
                for (int own = points[0]; own <= 4 * points[0]; own++) {
                    tryAll(e, points, new int[] {gone[0], gone[1], gone[2], gone[3], own});
                }
            }
        }
        int[][] six = {{0, 2, 4, 6, 1, 9}, {1, 5, 0, 2, 4, 9}, {7, 0, 0, 3, 2, 8}, {3, 3, 0, 6, 0, 8}, {0, 0, 5, 0, 7, 9},
            {4, 0, 6, 1, 1, 8}, {2, 6, 1, 0, 3, 8}, {0, 4, 0, 4, 4, 8}, {5, 5, 5, 0, 0, 9}, {0, 1, 2, 3, 4, 8},
            {2, 5, 6, 2, 0, 9}, {0, 6, 5, 0, 0, 8}, {0, 1, 6, 3, 0, 8}, {3, 1, 6, 5, 0, 9}, {1, 3, 6, 0, 0, 8}};
        for (int[] gone : six) {
            tryAll(e, new int[] {2, 1, 0}, gone);
        }
    }

    /** Clubs that have all matches left, and points deducted: can the last one be first, by trying all rows. */
    private static void tryAll(Edges e, int[] points, int[] gone) {
        int clubs = gone.length;
        int asked = clubs - 1;
        SportsHouse plain = Setup.league("", clubs, 0);
        int matches = plain.count(5);
        int[] home = new int[matches];
        int[] away = new int[matches];
        StringBuilder script = new StringBuilder("league " + clubs + " 0 points " + points[0] + " " + points[1] + " "
            + points[2] + ";\n");
        for (int m = 0; m < matches; m++) {
            home[m] = plain.match(m, 2);
            away[m] = plain.match(m, 3);
        }
        for (int club = 0; club < clubs; club++) {
            script.append(gone[club] > 0 ? "deduct 0 " + club + " " + gone[club] + "\n" : "");
        }
        int[] results = new int[matches];
        boolean found = tryFrom(0, results, home, away, points, gone);
        script.append("can 0 ").append(asked).append(" = ").append(found ? 1 : 0).append(" | cut = ");
        script.append(found ? 0 : leastCut(points, gone)).append('\n');
        for (int m = 0; m < matches; m++) {
            script.append("witness ").append(m).append(" = ").append(found ? results[m] : SportsHouse.NONE).append('\n');
        }
        e.edge(33, "of all such rows of results", script.toString());
    }

    /** Puts the first row of results from match m on after which none has more than the last club; false: there is none. */
    private static boolean tryFrom(int m, int[] results, int[] home, int[] away, int[] points, int[] gone) {
        int asked = gone.length - 1;
        if (m == results.length) {
            int[] has = new int[gone.length];
            for (int k = 0; k < m; k++) {
                has[home[k]] += points[results[k]];
                has[away[k]] += points[2 - results[k]];
            }
            boolean first = true;
            for (int club = 0; club < asked; club++) {
                first = first && has[club] - gone[club] <= has[asked] - gone[asked];
            }
            return first;
        }
        for (int result = 0; result < 3; result++) {
            results[m] = result;
            boolean loses = home[m] == asked && result > 0 || away[m] == asked && result < 2;
            if (!loses && tryFrom(m + 1, results, home, away, points, gone)) {
                return true;
            }
        }
        return false;
    }

    /** The least set of clubs ahead of the last whose caps are below twice its matches; 0 with uneven points. */
    private static int leastCut(int[] points, int[] gone) {
        if (points[0] + points[2] != 2 * points[1]) {
            return 0;
        }
        int others = gone.length - 1;
        for (int set = 1; set < 1 << others; set++) {
            int caps = 0;
            for (int club = 0; club < others; club++) {
                int spare = others * points[0] - gone[others] + gone[club] - others * points[2];
                int part = points[0] - points[1];
                int cap = spare < 0 ? -1 : part == 0 ? 1000 : spare / part;
                caps += (set >> club & 1) * cap;
            }
            int clubs = Integer.bitCount(set);
            if (caps < clubs * (clubs - 1)) {
                return set;
            }
        }
        throw new IllegalStateException("there is no cut");
    }

    private static void firstsBounds(Edges e) {
        e.edge(35, "UNKNOWN; STATE: it has not entered, or it is not planned.", """
            firsts 0 0 = UNKNOWN | 2* competition | firsts 0 0 = UNKNOWN | clubs 3 | firsts 0 0 = STATE | enter 0 0 | enter 0 1
            enter 1 2 | firsts 0 0 = STATE | plan 0 0 = 0 | firsts 0 0 = 2 | firsts 0 2 = STATE | firsts 1 2 = STATE
            firsts 2 0 = UNKNOWN | firsts 0 3 = UNKNOWN | firsts -1 0 = UNKNOWN | firsts 0 -1 = UNKNOWN | firsts MIN MAX = UNKNOWN
            """);
        e.edge(35, "NONE: more than 3 matches are left", """
            league 2 0 legs4;every1;points 1 1 1;order away; | firsts 0 0 = NONE | firsts 0 2 = UNKNOWN | walkOver 0 0 = 1
            firsts 0 1 = 27 | day 1 | walkOver 1 1 = 1 | firsts 0 1 = 9 | day 2 | walkOver 2 0 = 1 | firsts 0 1 = 3 | day 3
            walkOver 3 1 = 1 | firsts 0 1 = 1 | firsts 0 0 = 0
            """);
    }

    private static void firstsRows(Edges e) {
        e.edge(35, "of all 3 to their number rows of results, 1 to 0, 0 to 0, 0 to 1", """
            league 2 0 | firsts 0 0 = 2 | firsts 0 1 = 2 | deduct 0 0 1 | firsts 0 0 = 1 | firsts 0 1 = 2 | deduct 0 0 2
            firsts 0 0 = 1 | firsts 0 1 = 2 | deduct 0 0 1 | firsts 0 0 = 0 | firsts 0 1 = 3
            """);
        // Behind 1 to 0 for the other: level by all keys is a first place shared.
        e.edge(35, "in how many the club stands at place 1 (shared, too)", """
            league 2 1 legs2;every1;field1; | score 0 0 1 | firsts 0 0 = 1 | firsts 0 1 = 3
            """);
        e.edge(35, "in how many the club stands at place 1 (shared, too)", """
            league 2 1 legs2;every1;field1; | score 0 1 0 | firsts 0 0 = 3 | firsts 0 1 = 1
            """);
        e.edge(35, "in how many the club stands at place 1 (shared, too)", """
            league 3 0 points 0 0 0;order away; | firsts 0 0 = 17 | firsts 0 1 = 17 | firsts 0 2 = 17
            """);
        e.edge(35, "a match that goes on counts so alone, its cards do not", """
            begun 1 field1;order diff,fair; | 5* event 0 1 0 0 0 | event 0 3 0 0 0 | firsts 0 0 = 2 | firsts 0 1 = 2 | match 0 6 = 5
            whistles 0 | firsts 0 0 = 1 | firsts 0 1 = 0
            """);
        e.edge(35, "in every sport", "league 2 0 sport baseball; | firsts 0 0 = 2 | firsts 0 1 = 2");
        e.edge(35, "in every sport", "league 2 0 sport tennis;order scored; | firsts 0 0 = 2 | deduct 0 0 3 | firsts 0 0 = 1");
        e.edge(35, "in every sport", "league 2 0 sport volleyball;order diff; | firsts 0 1 = 2");
        e.edge(35, "with 3 matches left at most", """
            league 3 0 points 1 1 1;order wins; | firsts 0 0 = 14 | firsts 0 1 = 14 | firsts 0 2 = 14
            """);
    }

    private static void firstsByKeys(Edges e) {
        // A draw leaves them level on all but the lots.
        for (int seed = 0; seed < 4; seed++) {
            int[] order = EdgesStandings.lotOrder(seed, 0, 1);
            e.edge(35, "by all KEYS, as on day 999", "rules order diff,lots;seed " + seed + "; = 0 | clubs 2 | 2* enter 0 @"
                + "\nplan 0 999 = 0 | firsts 0 " + order[0] + " = 2 | firsts 0 " + order[1] + " = 1");
        }
        e.edge(35, "as on day 999", """
            league 2 0 legs2;every1; | walkOver 0 0 = 1 | day 500 | deduct 0 1 99 | firsts 0 0 = 3 | firsts 0 1 = 0
            """);
    }
}
