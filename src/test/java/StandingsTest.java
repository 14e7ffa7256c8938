/** Promises 29 to 31: the table, the standings, and by which key neighbours were parted. */
public final class StandingsTest {
    private static final Check CHECK = new Check("StandingsTest");
    private static final int NONE = SportsHouse.NONE;
    private static final int UNKNOWN = SportsHouse.UNKNOWN;
    private static final int OUTSIDE = SportsHouse.OUTSIDE;
    private static final int STATE = SportsHouse.STATE;

    public static void main(String[] args) {
        refusals();
        tables();
        keys();
        headAmongThoseStillEqual();
        partsOfHead();
        lastStepOfLots();
        pointsAheadOfHead();
        fairness();
        lots();
        lotsInAGroupOfTheirOwn();
        walkOversAndDeductions();
        entryOrder();
        twelveClubs();
        CHECK.end();
    }

    /** Plays a football match of two clubs that have one person each, of the club's number. */
    private static void play(SportsHouse x, int m, int forHome, int forAway) {
        if (x.count(7) < x.match(m, 4)) {
            x.day(x.match(m, 4));
        }
        int home = x.match(m, 2);
        int away = x.match(m, 3);
        x.lineUp(home, m, 0);
        x.lineUp(away, m, 1);
        CHECK.due("start(" + m + ")", x.start(m), 1);
        for (int k = 0; k < forHome; k++) {
            x.event(m, 1, 0, home, 0);
        }
        for (int k = 0; k < forAway; k++) {
            x.event(m, 1, 1, away, 0);
        }
        for (int k = 0; k < 3; k++) {
            x.event(m, 0, 0, 0, 0);
        }
    }

    private static void standings(String name, SportsHouse x, int[] clubs, int[] places, int[] parted) {
        for (int k = 0; k < clubs.length; k++) {
            CHECK.due(name + ": standing(0, 999, " + k + ")", x.standing(0, 999, k), clubs[k]);
            CHECK.due(name + ": place of " + clubs[k], x.table(0, 999, clubs[k], 7), places[k]);
            int want = k < parted.length ? parted[k] : NONE;
            CHECK.due(name + ": parted(0, 999, " + k + ")", x.parted(0, 999, k), want);
        }
    }

    private static void refusals() {
        SportsHouse x = new SportsHouse();
        x.competition();
        Setup.clubs(x, 3);
        CHECK.due("none has entered", x.standing(0, 0, 0), NONE);
        CHECK.due("none to part", x.parted(0, 0, 0), NONE);
        x.enter(0, 1);
        x.enter(0, 0);
        CHECK.due("table(1, 0, 0, 0)", x.table(1, 0, 0, 0), UNKNOWN);
        CHECK.due("table(0, 1000, 3, 8)", x.table(0, 1000, 3, 8), UNKNOWN);
        CHECK.due("table(0, 1000, 2, 0)", x.table(0, 1000, 2, 0), OUTSIDE);
        CHECK.due("table(0, -1, 0, 0)", x.table(0, -1, 0, 0), OUTSIDE);
        CHECK.due("table(0, 0, 0, -1)", x.table(0, 0, 0, -1), OUTSIDE);
        CHECK.due("table(0, 0, 0, 8)", x.table(0, 0, 0, 8), OUTSIDE);
        CHECK.due("it has not entered", x.table(0, 0, 2, 0), STATE);
        CHECK.due("before it is planned", x.table(0, 999, 0, 7), 1);
        CHECK.due("standing(1, 0, 0)", x.standing(1, 0, 0), UNKNOWN);
        CHECK.due("standing(0, 1000, 9)", x.standing(0, 1000, 9), OUTSIDE);
        CHECK.due("standing(0, -1, 0)", x.standing(0, -1, 0), OUTSIDE);
        CHECK.due("standing(0, 0, -1)", x.standing(0, 0, -1), NONE);
        CHECK.due("standing(0, 0, 2)", x.standing(0, 0, 2), NONE);
        CHECK.due("as they entered", x.standing(0, 0, 0), 1);
        CHECK.due("parted(1, 0, 0)", x.parted(1, 0, 0), UNKNOWN);
        CHECK.due("parted(0, 1000, 0)", x.parted(0, 1000, 0), OUTSIDE);
        CHECK.due("parted(0, -1, 0)", x.parted(0, -1, 0), OUTSIDE);
        CHECK.due("they share", x.parted(0, 0, 0), NONE);
        x.deduct(0, 1, 1);
        CHECK.due("by points", x.parted(0, 0, 0), 0);
        CHECK.due("none behind the last", x.parted(0, 0, 1), NONE);
        CHECK.due("none before the first", x.parted(0, 0, -1), NONE);
    }

    /** Clubs 0, 1, 2 each beat one another in a ring, and 3 lost to all. */
    private static SportsHouse ring(String text) {
        SportsHouse x = Setup.league(text + "every1;field1;", 4, 1);
        play(x, 0, 5, 0);
        play(x, 1, 2, 0);
        play(x, 2, 0, 1);
        play(x, 3, 1, 0);
        play(x, 4, 3, 0);
        play(x, 5, 1, 0);
        return x;
    }

    private static void tables() {
        SportsHouse x = ring("points 5 2 1;");
        int[][] want = {{3, 2, 0, 1, 6, 1, 11, 1}, {3, 2, 0, 1, 3, 1, 11, 3}, {3, 2, 0, 1, 4, 2, 11, 2},
            {3, 0, 0, 3, 0, 9, 3, 4}};
        for (int club = 0; club < 4; club++) {
            for (int what = 0; what < 8; what++) {
                CHECK.due("table(0, 2, " + club + ", " + what + ")", x.table(0, 2, club, what), want[club][what]);
            }
        }
        int[] early = {1, 1, 0, 0, 5, 0, 5, 1};
        int[] later = {2, 1, 0, 1, 5, 1, 6, 2};
        for (int what = 0; what < 8; what++) {
            CHECK.due("on day 0, " + what, x.table(0, 0, 0, what), early[what]);
            CHECK.due("on day 1, " + what, x.table(0, 1, 0, what), later[what]);
        }
        SportsHouse y = Setup.league("points 4 2 1;field1;legs2;every1;", 2, 1);
        play(y, 0, 2, 2);
        CHECK.due("a draw", y.table(0, 0, 0, 2), 1);
        CHECK.due("its points", y.table(0, 0, 1, 6), 2);
        y.day(1);
        y.lineUp(0, 1, 1);
        y.lineUp(1, 1, 0);
        y.start(1);
        y.event(1, 1, 0, 1, 0);
        CHECK.due("one that goes on does not count", y.table(0, 1, 1, 4), 2);
        for (int k = 0; k < 3; k++) {
            y.event(1, 0, 0, 0, 0);
        }
        CHECK.due("when it has ended it does", y.table(0, 1, 1, 4), 3);
        CHECK.due("points", y.table(0, 1, 1, 6), 6);
        CHECK.due("and for the loss", y.table(0, 1, 0, 6), 3);
    }

    private static void keys() {
        standings("diff, scored", ring(""), new int[] {0, 2, 1, 3}, new int[] {1, 2, 3, 4}, new int[] {1, 2, 0});
        standings("scored", ring("order scored;"), new int[] {0, 2, 1, 3}, new int[] {1, 2, 3, 4},
            new int[] {1, 1, 0});
        standings("wins", ring("order wins;"), new int[] {0, 1, 2, 3}, new int[] {1, 1, 1, 4},
            new int[] {NONE, NONE, 0});
        standings("wins, diff", ring("order wins,diff;"), new int[] {0, 1, 2, 3}, new int[] {1, 2, 2, 4},
            new int[] {2, NONE, 0});
        standings("head", ring("order head;"), new int[] {1, 0, 2, 3}, new int[] {1, 2, 3, 4}, new int[] {1, 1, 0});
        standings("away", ring("order away;"), new int[] {1, 0, 2, 3}, new int[] {1, 2, 2, 4},
            new int[] {1, NONE, 0});
        standings("away, head", ring("order away,head;"), new int[] {1, 2, 0, 3}, new int[] {1, 2, 3, 4},
            new int[] {1, 2, 0});
        standings("no points at all", ring("points 0 0 0;order wins;"), new int[] {0, 1, 2, 3},
            new int[] {1, 1, 1, 4}, new int[] {NONE, NONE, 1});
    }

    private static SportsHouse three(String text) {
        SportsHouse x = Setup.league(text + "every1;field1;", 3, 1);
        play(x, 0, 1, 2);
        play(x, 1, 0, 3);
        play(x, 2, 0, 2);
        return x;
    }

    private static void headAmongThoseStillEqual() {
        // Among all three 0 and 1 have 3 points, 1 goal more and 3 goals; 1 beat 0.
        standings("head alone", three("order head;"), new int[] {0, 1, 2}, new int[] {1, 1, 3}, new int[] {NONE, 1});
        standings("head redone", three("order head;redo;"), new int[] {1, 0, 2}, new int[] {1, 2, 3},
            new int[] {1, 1});
        standings("redone by the first key that parts", three("order wins,head,diff;redo;"), new int[] {1, 0, 2},
            new int[] {1, 2, 3}, new int[] {2, 2});
        standings("the next key", three("order head,lots;seed 5;"), lotOrder(5, 0, 1, 2), new int[] {1, 2, 3},
            new int[] {2, 1});
    }

    /** Three clubs that each beat one: 1 beats 2, 2 beats 0, 0 beats 1 by these scores. */
    private static SportsHouse ringOfThree(String text, int... scores) {
        SportsHouse x = Setup.league(text + "every1;field1;", 3, 1);
        for (int m = 0; m < 3; m++) {
            play(x, m, scores[2 * m], scores[2 * m + 1]);
        }
        return x;
    }

    private static void partsOfHead() {
        standings("of equals scored", ringOfThree("order head;", 2, 1, 1, 0, 1, 0), new int[] {1, 2, 0},
            new int[] {1, 1, 3}, new int[] {NONE, 1});
        standings("diff ahead of scored", ringOfThree("order head;", 5, 4, 1, 0, 2, 0), new int[] {0, 2, 1},
            new int[] {1, 2, 3}, new int[] {1, 1});
        SportsHouse x = Setup.league("order head;legs3;every1;field1;", 2, 1);
        play(x, 0, 1, 0);
        play(x, 1, 5, 0);
        play(x, 2, 1, 0);
        x.deduct(0, 0, 3);
        standings("points ahead of diff", x, new int[] {0, 1}, new int[] {1, 2}, new int[] {1});
    }

    /** The first two by lots among them, then the third. */
    private static int[] lotOrder(int seed, int a, int b, int last) {
        int group = 1 << a | 1 << b;
        return lot(seed, group, a) > lot(seed, group, b) ? new int[] {a, b, last} : new int[] {b, a, last};
    }

    private static int lot(int seed, int group, int club) {
        int x = (seed * 1000003 + group) * 31 + club;
        x ^= x >>> 16;
        x *= 73244475;
        x ^= x >>> 16;
        x *= 73244475;
        x ^= x >>> 16;
        return x & 0x7fffffff;
    }

    private static void pointsAheadOfHead() {
        SportsHouse x = three("order head;");
        x.deduct(0, 2, 1);
        // Now 0 and 1 are a group, and 1 beat 0.
        standings("parted by points first", x, new int[] {1, 0, 2}, new int[] {1, 2, 3}, new int[] {1, 0});
        SportsHouse y = three("order head;");
        y.deduct(0, 0, 3);
        y.deduct(0, 1, 3);
        y.deduct(0, 2, 3);
        standings("nothing is deducted in head", y, new int[] {0, 1, 2}, new int[] {1, 1, 3}, new int[] {NONE, 1});
    }

    private static void fairness() {
        SportsHouse x = Setup.league("order fair;field2;legs2;every1;points 1 1 1;", 2, 3);
        for (int p = 0; p < 6; p++) {
            x.lineUp(p, 0, p / 3);
        }
        x.start(0);
        x.event(0, 3, 0, 0, 0);
        x.event(0, 3, 0, 1, 0);
        x.event(0, 0, 0, 0, 0);
        CHECK.due("as long as it goes on", x.parted(0, 0, 0), NONE);
        x.event(0, 0, 0, 0, 0);
        x.event(0, 0, 0, 0, 0);
        standings("two yellows", x, new int[] {1, 0}, new int[] {1, 2}, new int[] {1});
        x.review(0, 2, 4, 1, 3, 0);
        x.event(0, 0, 0, 0, 0);
        standings("a red is three", x, new int[] {0, 1}, new int[] {1, 2}, new int[] {1});
        x.review(0, 3, 5, 0, 0, 2);
        x.event(0, 0, 0, 0, 0);
        x.review(0, 4, 3, 0, 2, 0);
        x.event(0, 0, 0, 0, 0);
        CHECK.due("ended", x.match(0, 5), 2);
        standings("three yellows are a red", x, new int[] {0, 1}, new int[] {1, 1}, new int[] {NONE});
        SportsHouse y = Setup.league("order fair;field2;every1;points 1 1 1;", 2, 2);
        for (int p = 0; p < 4; p++) {
            y.lineUp(p, 0, p / 2);
        }
        y.start(0);
        y.event(0, 4, 1, 2, 0);
        y.event(0, 3, 1, 3, 0);
        y.event(0, 3, 0, 0, 0);
        y.event(0, 3, 0, 0, 0);
        for (int k = 0; k < 3; k++) {
            y.event(0, 0, 0, 0, 0);
        }
        standings("two yellows and sent off are five", y, new int[] {1, 0}, new int[] {1, 2}, new int[] {1});
    }

    private static void lots() {
        for (int seed : new int[] {0, 1, 77, 500, 999}) {
            SportsHouse x = new SportsHouse();
            Setup.rules(x, "order lots;seed " + seed + ";");
            Setup.clubs(x, 9);
            int[] clubs = {8, 3, 5, 0};
            int group = 0;
            for (int club : clubs) {
                x.enter(0, club);
                group |= 1 << club;
            }
            for (int k = 0; k < 4; k++) {
                for (int j = k + 1; j < 4; j++) {
                    if (lot(seed, group, clubs[j]) > lot(seed, group, clubs[k])) {
                        int was = clubs[k];
                        clubs[k] = clubs[j];
                        clubs[j] = was;
                    }
                }
            }
            standings("lots of seed " + seed, x, clubs, new int[] {1, 2, 3, 4}, new int[] {1, 1, 1});
        }
    }

    private static void lastStepOfLots() {
        // Of this seed and these clubs the highest bits are alike, so the last step alone parts them.
        SportsHouse x = new SportsHouse();
        Setup.rules(x, "order lots;seed 540;");
        Setup.clubs(x, 7);
        x.enter(0, 4);
        x.enter(0, 6);
        int[] want = lotOrder(540, 4, 6, 0);
        CHECK.due("last step: first", x.standing(0, 0, 0), want[0]);
        CHECK.due("last step: second", x.standing(0, 0, 1), want[1]);
    }

    private static void lotsInAGroupOfTheirOwn() {
        // Clubs 1 and 2 have as many points, 0 has one less: the lots are those of the group 1 and 2.
        for (int seed = 0; seed < 8; seed++) {
            SportsHouse x = new SportsHouse();
            Setup.rules(x, "order diff,lots;seed " + seed + ";");
            Setup.clubs(x, 3);
            Setup.enterAll(x, 0, 3);
            x.deduct(0, 0, 1);
            standings("lots of two, seed " + seed, x, lotOrder(seed, 1, 2, 0), new int[] {1, 2, 3},
                new int[] {2, 0});
        }
    }

    private static void walkOversAndDeductions() {
        SportsHouse x = Setup.league("walkover 4;order away;every2;legs2;", 2, 0);
        x.walkOver(0, 0);
        CHECK.due("scored away in a match walked over", x.parted(0, 0, 0), 0);
        int[] winner = {1, 1, 0, 0, 4, 0, 3, 1};
        int[] loser = {1, 0, 0, 1, 0, 4, 0, 2};
        for (int what = 0; what < 8; what++) {
            CHECK.due("winner " + what, x.table(0, 0, 1, what), winner[what]);
            CHECK.due("loser " + what, x.table(0, 0, 0, what), loser[what]);
        }
        x.day(1);
        x.deduct(0, 1, 3);
        CHECK.due("on day 0 nothing is deducted yet", x.table(0, 0, 1, 6), 3);
        CHECK.due("on day 1", x.table(0, 1, 1, 6), 0);
        standings("equal points, by away", x, new int[] {1, 0}, new int[] {1, 2}, new int[] {1});
        x.deduct(0, 1, 9);
        CHECK.due("below 0", x.table(0, 1, 1, 6), -9);
        x.day(2);
        x.postpone(1, 50);
        x.day(50);
        x.walkOver(1, 1);
        CHECK.due("the day that it is on now", x.table(0, 49, 1, 0), 1);
        CHECK.due("on day 50", x.table(0, 50, 1, 0), 2);
        SportsHouse y = Setup.league("walkover 6;field1;", 2, 1);
        y.lineUp(0, 0, 0);
        y.lineUp(1, 0, 1);
        y.start(0);
        y.event(0, 1, 0, 0, 0);
        y.event(0, 4, 0, 0, 0);
        CHECK.due("a match without enough persons", y.table(0, 0, 1, 4), 6);
        CHECK.due("its goals are gone", y.table(0, 0, 0, 4), 0);
        CHECK.due("it is lost", y.table(0, 0, 0, 3), 1);
    }

    private static void entryOrder() {
        SportsHouse x = new SportsHouse();
        x.competition();
        Setup.clubs(x, 5);
        for (int club : new int[] {3, 0, 4, 1}) {
            x.enter(0, club);
        }
        x.deduct(0, 0, 2);
        standings("those that share stand as they entered", x, new int[] {3, 4, 1, 0}, new int[] {1, 1, 1, 4},
            new int[] {NONE, NONE, 0});
    }

    private static void twelveClubs() {
        SportsHouse x = new SportsHouse();
        Setup.rules(x, "order lots;");
        Setup.clubs(x, 12);
        Setup.enterAll(x, 0, 12);
        // Six pairs that are level wait at once.
        for (int club = 0; club < 12; club++) {
            x.deduct(0, club, 1 + club / 2);
        }
        for (int pair = 0; pair < 6; pair++) {
            int[] want = lotOrder(0, 2 * pair, 2 * pair + 1, 0);
            for (int k = 0; k < 2; k++) {
                int at = 2 * pair + k;
                CHECK.due("twelve: standing " + at, x.standing(0, 0, at), want[k]);
                CHECK.due("twelve: parted " + at, x.parted(0, 0, at), k == 0 ? 1 : pair < 5 ? 0 : NONE);
                CHECK.due("twelve: place " + at, x.table(0, 0, want[k], 7), at + 1);
            }
        }
    }
}
