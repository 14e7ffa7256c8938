/** Promises 23 to 28 and section 5: the laws, four sports, reviews, rows, states, fields. */
final class EdgesPlay {
    private EdgesPlay() {
    }

    static void tell(Edges e) {
        firstLaw(e);
        secondLaw(e);
        thirdLaw(e);
        fourthLaw(e);
        fifthAndSixthLaw(e);
        seventhLaw(e);
        notLookedAt(e);
        football(e);
        cards(e);
        tooFew(e);
        substitutions(e);
        volleyballSets(e);
        volleyballFifthSet(e);
        serving(e);
        rotating(e);
        tennisGames(e);
        tennisSets(e);
        tennisServing(e);
        retiring(e);
        hits(e);
        walks(e);
        strikesAndOuts(e);
        baseballEnds(e);
        baseballWithoutEnd(e);
        reviewBounds(e);
        reviewLaws(e);
        sameRows(e);
        reviewsInPlace(e);
        reviewsAside(e);
        reviewsOfEnds(e);
        reviewsOfOtherSports(e);
        rows(e);
        row(e);
        states(e);
        fields(e);
    }

    private static void firstLaw(Edges e) {
        e.edge(23, "UNKNOWN: the match; ROOM (behind the LAW).", """
            event 0 0 0 0 0 = UNKNOWN | begun 1 field1; | event 1 0 0 0 0 = UNKNOWN | event -1 0 0 0 0 = UNKNOWN
            event MIN 0 0 0 0 = UNKNOWN | event MAX 0 0 0 0 = UNKNOWN | event 1 9 9 9 9 = UNKNOWN | event 0 0 0 0 0 = 1
            """);
        e.edge(23, "1 the match does not go on", """
            league 2 1 field1;legs3;every1; | event 0 0 0 0 0 = -11 | lineUp 0 0 0 | lineUp 1 0 1 | event 0 0 0 0 0 = -11
            event 0 9 9 9 9 = -11 | start 0 = 1 | event 0 0 0 0 0 = 1 | event 0 0 0 0 0 = 2 | event 0 0 0 0 0 = 3
            event 0 0 0 0 0 = -11 | event 0 9 9 9 9 = -11 | event 0 1 0 0 0 = -11 | day 1 | walkOver 1 0 = 1
            event 1 0 0 0 0 = -11 | rows 0 0 = 3 | rows 1 0 = 0
            """);
        e.edge(23, "An EVENT: how many rows the match has", """
            league 2 1 field1;legs2;every1; | 2* lineUp @ 0 @ | start 0 = 1 | 5* event 0 1 0 0 0 = 1.. | day 1
            lineUp 1 1 0 | lineUp 0 1 1 | start 1 = 1 | 3* event 1 1 0 1 0 = 1.. | event 0 1 0 0 0 = 6
            """);
    }

    private static void secondLaw(Edges e) {
        String words = "2 there is no such kind in its sport, or no such side (of an event that needs one)";
        e.edge(23, words, """
            begun 2 field1; | event 0 -1 0 0 0 = -12 | event 0 6 0 0 0 = -12 | event 0 MIN 0 0 0 = -12 | event 0 MAX 0 0 0 = -12
            event 0 1 -1 0 0 = -12 | event 0 1 2 0 0 = -12 | event 0 2 2 0 0 = -12 | event 0 3 MIN 0 0 = -12
            event 0 4 MAX 0 0 = -12 | event 0 5 2 0 1 = -12 | event 0 5 0 0 1 = 1 | event 0 0 2 0 0 = 2 | event 0 0 -1 0 0 = 3
            """);
        e.edge(23, words, """
            begun 2 sport volleyball;field1; | event 0 -1 0 0 0 = -12 | event 0 0 0 0 0 = -12 | event 0 2 0 0 0 = -12
            event 0 3 0 0 0 = -12 | event 0 4 0 0 0 = -12 | event 0 6 0 0 0 = -12 | event 0 1 -1 0 0 = -12 | event 0 1 2 0 0 = -12
            event 0 5 2 0 1 = -12 | event 0 5 -1 0 1 = -12 | event 0 1 0 0 0 = 1 | event 0 5 0 0 1 = 2 | event 0 1 1 0 0 = 3
            """);
        e.edge(23, words, """
            begun 2 sport tennis;field1; | event 0 0 0 0 0 = -12 | event 0 2 0 0 0 = -12 | event 0 3 0 0 0 = -12
            event 0 4 0 0 0 = -12 | event 0 5 0 0 1 = -12 | event 0 7 0 0 0 = -12 | event 0 -1 0 0 0 = -12
            event 0 1 2 0 0 = -12 | event 0 6 2 0 0 = -12 | event 0 6 -1 0 0 = -12 | event 0 1 0 0 0 = 1 | event 0 6 0 0 0 = 2
            """);
        e.edge(23, words, """
            begun 2 sport baseball;field1; | event 0 0 1 0 0 = -12 | event 0 5 1 0 0 = -12 | event 0 6 1 0 0 = -12
            event 0 -1 1 0 0 = -12 | event 0 1 2 0 1 = -12 | event 0 2 -1 0 0 = -12 | event 0 3 2 0 0 = -12 | event 0 4 2 0 0 = -12
            event 0 1 2 0 9 = -12 | event 0 1 1 0 1 = 1 | event 0 2 1 0 0 = 2 | event 0 3 1 0 0 = 3 | event 0 4 1 0 0 = 4
            """);
    }

    private static void thirdLaw(Edges e) {
        e.edge(23, "1 GOAL of the person (3: in the break)", """
            begun 1 field1; | event 0 1 0 0 0 = 1 | event 0 0 0 0 0 = 2 | event 0 1 0 0 0 = -13 | event 0 1 1 1 0 = -13
            event 0 0 0 0 0 = 3 | event 0 1 0 0 0 = 4 | match 0 6 = 2
            """);
        e.edge(23, "2 OWN GOAL (likewise): one more for the other side", """
            begun 1 field1; | event 0 2 0 0 0 = 1 | event 0 0 0 0 0 = 2 | event 0 2 0 0 0 = -13 | event 0 0 0 0 0 = 3
            event 0 2 1 1 0 = 4 | match 0 6 = 1 | match 0 7 = 1
            """);
        // All other kinds may come in the break; law 3 is asked behind 2 and before 4.
        e.edge(23, "3 the state does not allow it", """
            begun 4 field2; | event 0 0 0 0 0 = 1 | event 0 1 2 0 0 = -12 | event 0 1 0 99 0 = -13 | event 0 2 0 4 0 = -13
            event 0 3 0 0 0 = 2 | event 0 5 0 0 2 = 3 | event 0 4 0 2 0 = 4 | event 0 0 0 0 0 = 5
            """);
        e.edge(23, "Kinds (3: the side does not bat)", """
            begun 1 sport baseball;field1; | event 0 1 0 0 1 = -13 | event 0 2 0 0 0 = -13 | event 0 3 0 0 0 = -13
            event 0 4 0 0 0 = -13 | event 0 1 0 0 9 = -13 | 3* event 0 4 1 0 0 = 1.. | event 0 4 1 0 0 = -13
            event 0 1 1 0 1 = -13 | event 0 2 1 0 0 = -13 | event 0 3 1 0 0 = -13 | event 0 4 0 0 0 = 4
            """);
    }

    private static void fourthLaw(Edges e) {
        e.edge(23, "4 the person is not on the field of that side", """
            begun 4 field2; | event 0 1 0 1 0 = 1 | event 0 1 0 2 0 = -14 | event 0 1 0 4 0 = -14 | event 0 1 1 4 0 = 2
            event 0 1 1 1 0 = -14 | event 0 1 0 -1 0 = -14 | event 0 1 0 8 0 = -14 | event 0 1 0 MIN 0 = -14 | event 0 1 0 MAX 0 = -14
            event 0 2 0 2 0 = -14 | event 0 3 0 2 0 = -14 | event 0 4 0 2 0 = -14 | event 0 5 0 2 3 = -14 | event 0 5 0 4 2 = -14
            event 0 5 0 3 3 = -14 | event 0 5 0 99 99 = -14
            """);
        e.edge(23, "4 the person is not on the field of that side", """
            begun 3 sport volleyball;field2; | event 0 5 0 2 2 = -14 | event 0 5 0 3 2 = -14 | event 0 5 0 -1 2 = -14
            event 0 5 0 1 2 = 1 | event 0 5 0 1 2 = -14
            """);
    }

    private static void fifthAndSixthLaw(Edges e) {
        e.edge(23, "5 the other one is not on its bench", """
            begun 4 field2; | event 0 5 0 0 0 = -15 | event 0 5 0 0 1 = -15 | event 0 5 0 0 6 = -15 | event 0 5 0 0 -1 = -15
            event 0 5 0 0 MIN = -15 | event 0 5 0 0 MAX = -15 | event 0 5 0 0 2 = 1 | event 0 5 0 1 0 = -15 | event 0 5 0 1 2 = -15
            event 0 5 0 1 3 = 2 | event 0 5 0 3 2 = -15
            """);
        // On no bench: who was sent off, and who is no more than registered.
        e.edge(23, "5 the other one is not on its bench", """
            league 2 5 field3; | 4* lineUp @ 0 0 | lineUp 5 0 1 | lineUp 6 0 1 | lineUp 7 0 1 | start 0 = 1 | event 0 4 0 0 0 = 1
            event 0 5 0 1 0 = -15 | event 0 5 0 1 4 = -15 | event 0 5 1 5 8 = -15 | event 0 5 0 1 3 = 2
            """);
        e.edge(23, "6 no substitution is left", """
            begun 3 field1;subs0; | event 0 5 0 0 1 = -16 | event 0 5 0 0 3 = -15 | event 0 5 0 1 2 = -14
            """);
        e.edge(23, "6 no substitution is left", """
            begun 3 sport volleyball;field1;subs1; | event 0 5 0 0 1 = 1 | event 0 5 0 1 2 = -16 | event 0 5 0 1 1 = -15
            event 0 5 1 3 4 = 2 | event 0 5 1 4 5 = -16
            """);
        // A bench of four has no fifth, so the fifth substitution can't be made; four can.
        e.edge(23, "subs N (0 to 5; 2)", """
            begun 5 field1;subs5; | event 0 5 0 0 1 = 1 | event 0 5 0 1 2 = 2 | event 0 5 0 2 3 = 3 | event 0 5 0 3 4 = 4
            event 0 5 0 4 0 = -15 | state 0 6 = 4 | state 0 7 = 0
            """);
    }

    private static void seventhLaw(Edges e) {
        e.edge(23, "1 HIT of as many bases as the other number says (1 to 4; 7)", """
            begun 1 sport baseball;field1; | event 0 1 1 0 0 = -17 | event 0 1 1 0 -1 = -17 | event 0 1 1 0 5 = -17
            event 0 1 1 0 MIN = -17 | event 0 1 1 0 MAX = -17 | event 0 1 1 0 33 = -17 | event 0 1 1 0 1 = 1 | event 0 1 1 0 4 = 2
            """);
        e.edge(23, "An event is BARRED by the first of these LAWS that is broken", """
            begun 1 sport baseball;field1; | event 0 1 2 0 0 = -12 | event 0 1 0 0 0 = -13 | event 0 1 1 0 0 = -17
            event 0 6 0 0 0 = -12 | 3* event 0 4 1 0 0 | event 0 1 1 0 0 = -13
            """);
    }

    private static void notLookedAt(Edges e) {
        String words = "What an event does not need is not looked at.";
        e.edge(23, words, """
            begun 1 field1; | event 0 1 0 0 MIN = 1 | event 0 2 1 1 MAX = 2 | event 0 0 MIN MAX -7 = 3 | event 0 3 0 0 99 = 4
            """);
        e.edge(23, words, "begun 1 sport volleyball;field1; | event 0 1 0 MIN MAX = 1 | event 0 1 1 -1 -1 = 2");
        e.edge(23, words, "begun 1 sport tennis;field1; | event 0 1 0 MIN MAX = 1 | event 0 6 1 -1 -1 = 2");
        e.edge(23, words, """
            begun 1 sport baseball;field1; | event 0 1 1 MIN 1 = 1 | event 0 2 1 -1 0 = 2 | event 0 3 1 MAX 9 = 3
            event 0 4 1 99 MIN = 4
            """);
    }

    private static void football(Edges e) {
        e.edge(23, "0 WHISTLE: the PHASE is one more; at 3 it has ENDED.", """
            begun 1 field1; | state 0 0 = 0 | event 0 0 0 0 0 | state 0 0 = 1 | event 0 0 0 0 0 | state 0 0 = 2 | match 0 5 = 1
            event 0 0 0 0 0 | state 0 0 = 3 | match 0 5 = 2 | event 0 0 0 0 0 = -11 | state 0 0 = 3
            """);
        e.edge(23, "one more for the side", """
            begun 2 field2; | event 0 1 0 1 0 | match 0 6 = 1 | match 0 7 = 0 | event 0 1 1 2 0 | event 0 1 1 3 0 | match 0 6 = 1
            match 0 7 = 2
            """);
        e.edge(23, "one more for the other side", """
            begun 1 field1; | event 0 2 0 0 0 | match 0 6 = 0 | match 0 7 = 1 | event 0 2 1 1 0 | match 0 6 = 1 | match 0 7 = 1
            """);
    }

    private static void cards(Edges e) {
        e.edge(23, "with the second one in this match it is SENT OFF", """
            begun 4 field3; | event 0 3 0 0 0 = 1 | onField 0 0 0 = 0 | event 0 3 0 1 0 = 2 | onField 0 0 2 = 2 | event 0 3 0 0 0 = 3
            onField 0 0 0 = 1 | onField 0 0 1 = 2 | onField 0 0 2 = NONE | event 0 3 0 0 0 = -14 | event 0 1 0 0 0 = -14
            """);
        // One of each of two persons sends none off; nor do yellows of two matches.
        e.edge(23, "with the second one in this match", """
            league 2 2 field2;legs2;every1; | lineUp 0 0 0 | lineUp 1 0 0 | lineUp 2 0 1 | lineUp 3 0 1 | start 0 = 1
            event 0 3 0 0 0 | event 0 3 0 1 0 | onField 0 0 1 = 1 | whistles 0 | day 1 | lineUp 2 1 0 | lineUp 3 1 0
            lineUp 0 1 1 | lineUp 1 1 1 | start 1 = 1 | event 1 3 1 0 0 = 1 | onField 1 1 0 = 0 | onField 1 1 1 = 1
            """);
        e.edge(23, "4 RED: SENT OFF: off the field for good", """
            begun 3 field2; | event 0 4 0 0 0 = 1 | onField 0 0 0 = 1 | onField 0 0 1 = NONE | event 0 4 0 0 0 = -14
            event 0 5 0 1 0 = -15 | event 0 5 0 0 2 = -14
            """);
    }

    private static void tooFew(Edges e) {
        // How many of FIELD have to go until fewer than half are left.
        int[] goers = {1, 2, 2, 3, 3, 4};
        for (int field = 1; field <= 6; field++) {
            StringBuilder script = new StringBuilder();
            script.append("begun ").append(field).append(" walkover9;field").append(field).append(";\n");
            script.append("event 0 1 0 0 0 = 1 | event 0 1 1 ").append(field).append(" 0 = 2\n");
            for (int k = 1; k < goers[field - 1]; k++) {
                script.append("event 0 4 0 ").append(k - 1).append(" 0 | match 0 5 = 1 | match 0 6 = 1\n");
            }
            script.append("event 0 4 0 ").append(goers[field - 1] - 1).append(" 0 | match 0 5 = 2\n");
            script.append("match 0 6 = 0 | match 0 7 = 9 | state 0 0 = 0 | event 0 0 0 0 0 = -11\n");
            int left = field - goers[field - 1];
            script.append("onField 0 0 ").append(left).append(" = NONE | onField 0 1 0 = ").append(field);
            e.edge(23, "A side with fewer on the field than half of FIELD", script.toString());
        }
        e.edge(23, "it has ENDED, the score is WALKOVER to 0 for the other side", """
            begun 1 field1;walkover1; | 3* event 0 1 0 0 0 | 2* event 0 1 1 1 0 | event 0 3 1 1 0 = 6 | match 0 5 = 1
            event 0 3 1 1 0 = 7 | match 0 5 = 2 | match 0 6 = 1 | match 0 7 = 0 | onField 0 1 0 = NONE | table 0 0 0 1 = 1
            """);
        // In the break and in the second half the PHASE stays what it was.
        e.edge(27, "the PHASE of a match without enough persons", """
            begun 1 field1; | event 0 0 0 0 0 | event 0 4 0 0 0 | match 0 5 = 2 | state 0 0 = 1
            """);
        e.edge(27, "the PHASE of a match without enough persons", """
            begun 2 field1; | 2* event 0 0 0 0 0 | event 0 5 1 2 3 | event 0 4 1 3 0 | match 0 5 = 2 | state 0 0 = 2 | state 0 7 = 1
            """);
    }

    private static void substitutions(Edges e) {
        e.edge(23, "the other one, from the bench, stands where the person stood", """
            begun 5 field3; | event 0 5 0 1 4 = 1 | onField 0 0 0 = 0 | onField 0 0 1 = 4 | onField 0 0 2 = 2 | onField 0 0 3 = NONE
            event 0 5 0 2 3 = 2 | onField 0 0 2 = 3 | event 0 1 0 4 0 = 3
            """);
        e.edge(23, "who is off the field for good; SUBS of them for each side", """
            begun 5 field2;subs2; | event 0 5 0 0 2 = 1 | event 0 1 0 0 0 = -14 | event 0 5 0 1 0 = -15 | event 0 5 0 2 3 = 2
            event 0 5 0 1 4 = -16 | event 0 5 1 5 7 = 3 | event 0 5 1 6 8 = 4 | event 0 5 1 7 9 = -16 | state 0 6 = 2 | state 0 7 = 2
            """);
        // The last of a full field, and the last of a full bench; who was sent off stays so.
        e.edge(23, "the other one, from the bench, stands where the person stood", """
            begun 10 field6;subs5; | event 0 5 1 15 19 = 1 | onField 0 1 5 = 19 | onField 0 1 6 = NONE | event 0 5 0 5 9 = 2
            onField 0 0 5 = 9 | event 0 1 0 5 0 = -14 | event 0 1 1 15 0 = -14 | event 0 1 1 19 0 = 3
            """);
        e.edge(23, "off the field for good", """
            begun 4 field3;legs2;every1; | event 0 4 1 6 0 = 1 | event 0 5 0 2 3 = 2 | whistles 0 | eligible 6 1 0 = 2
            eligible 2 1 1 = 0 | eligible 5 1 0 = 0
            """);
        // A yellow is the person's, not the place's.
        e.edge(23, "3 YELLOW of the person", """
            begun 3 field2; | event 0 3 0 0 0 = 1 | event 0 5 0 0 2 = 2 | event 0 3 0 2 0 = 3 | onField 0 0 0 = 2
            event 0 3 0 2 0 = 4 | onField 0 0 0 = 1 | onField 0 0 1 = NONE
            """);
    }

    private static void volleyballSets(Edges e) {
        String words = "a SET is won by TARGET points at least";
        e.edge(23, words, """
            begun 1 sport volleyball;field1;target2; | event 0 1 0 0 0 | match 0 6 = 0 | event 0 1 0 0 0 | match 0 6 = 1
            state 0 0 = 1 | state 0 1 = 0 | state 0 2 = 0
            """);
        e.edge(23, words, """
            begun 1 sport volleyball;field1;target25; | 24* event 0 1 1 0 0 | match 0 7 = 0 | state 0 2 = 24 | event 0 1 1 0 0
            match 0 7 = 1 | state 0 2 = 0 | state 0 0 = 1
            """);
        e.edge(23, "with 2 more than the other; then points are 0 0", """
            begun 1 sport volleyball;field1;target3; | 2* event 0 1 0 0 0 | 3* event 0 1 1 0 0 | match 0 7 = 0 | state 0 1 = 2
            state 0 2 = 3 | event 0 1 0 0 0 | event 0 1 0 0 0 | match 0 6 = 0 | state 0 1 = 4 | event 0 1 0 0 0 | match 0 6 = 1
            state 0 1 = 0 | state 0 2 = 0
            """);
        e.edge(23, "with 2 more than the other", """
            begun 1 sport volleyball;field1;target2; | event 0 1 0 0 0 | event 0 1 1 0 0 | event 0 1 0 0 0 | match 0 6 = 0
            event 0 1 1 0 0 | event 0 1 1 0 0 | match 0 7 = 0 | event 0 1 1 0 0 | match 0 7 = 1
            """);
        e.edge(23, "Three SETS won: ENDED.", """
            begun 1 sport volleyball;field1;target2; | 5* event 0 1 0 0 0 | match 0 6 = 2 | match 0 5 = 1 | event 0 1 0 0 0 = 6
            match 0 6 = 3 | match 0 7 = 0 | match 0 5 = 2 | event 0 1 0 0 0 = -11 | state 0 0 = 2
            """);
        e.edge(23, "Three SETS won: ENDED.", """
            begun 1 sport volleyball;field1;target2; | 4* event 0 1 0 0 0 | 4* event 0 1 1 0 0 | match 0 6 = 2 | match 0 7 = 2
            match 0 5 = 1 | state 0 0 = 4 | 2* event 0 1 1 0 0 | match 0 7 = 3 | match 0 5 = 2 | state 0 0 = 4
            """);
    }

    private static void volleyballFifthSet(Edges e) {
        int[] targets = {2, 3, 4, 5, 6, 7, 25};
        int[] fifths = {2, 2, 3, 3, 4, 5, 15};
        for (int k = 0; k < targets.length; k++) {
            e.edge(23, "the fifth one by (3 TARGET + 4) / 5 cut", "begun 1 sport volleyball;field1;target" + targets[k]
                + ";\n" + 2 * targets[k] + "* event 0 1 0 0 0 | " + 2 * targets[k] + "* event 0 1 1 0 0 | state 0 0 = 4\n"
                + (fifths[k] - 1) + "* event 0 1 0 0 0 | match 0 5 = 1 | event 0 1 0 0 0 | match 0 5 = 2 | match 0 6 = 3");
        }
        e.edge(23, "with 2 more than the other", """
            begun 1 sport volleyball;field1;target3; | 6* event 0 1 0 0 0 | 6* event 0 1 1 0 0 | event 0 1 0 0 0 | event 0 1 1 0 0
            event 0 1 0 0 0 | match 0 5 = 1 | event 0 1 1 0 0 | event 0 1 1 0 0 | match 0 5 = 1 | event 0 1 1 0 0 | match 0 5 = 2
            match 0 7 = 3
            """);
        // The fourth set goes to TARGET, the fifth alone does not.
        e.edge(23, "the fifth one by (3 TARGET + 4) / 5 cut", """
            begun 1 sport volleyball;field1;target10; | 20* event 0 1 0 0 0 | 16* event 0 1 1 0 0 | match 0 7 = 1
            3* event 0 1 1 0 0 | match 0 7 = 1 | event 0 1 1 0 0 | match 0 7 = 2 | 5* event 0 1 1 0 0 | match 0 5 = 1
            event 0 1 1 0 0 | match 0 5 = 2
            """);
    }

    private static void serving(Edges e) {
        e.edge(23, "SERVER: side 0 in the first, third and fifth set, else 1, at their beginning", """
            begun 1 sport volleyball;field1;target2; | state 0 5 = 0 | 2* event 0 1 1 0 0 | state 0 5 = 1 | 2* event 0 1 0 0 0
            state 0 5 = 0 | 2* event 0 1 1 0 0 | state 0 5 = 1 | 2* event 0 1 0 0 0 | state 0 0 = 4 | state 0 5 = 0
            """);
        e.edge(23, "then who made the last point", """
            begun 1 sport volleyball;field1;target3; | event 0 1 0 0 0 | state 0 5 = 0 | event 0 1 1 0 0 | state 0 5 = 1
            event 0 1 1 0 0 | state 0 5 = 1 | event 0 1 0 0 0 | state 0 5 = 0
            """);
        e.edge(27, "SERVER is then who made the last point", """
            begun 1 sport volleyball;field1;target2; | 6* event 0 1 1 0 0 | match 0 5 = 2 | state 0 5 = 1 | state 0 0 = 2
            state 0 1 = 0 | state 0 2 = 0
            """);
        e.edge(27, "SERVER is then who made the last point", """
            begun 1 sport volleyball;field1;target2; | 6* event 0 1 0 0 0 | match 0 5 = 2 | state 0 5 = 0
            """);
    }

    private static void rotating(Edges e) {
        e.edge(23, "ROTATES: the first of its field goes behind the last", """
            begun 3 sport volleyball;field3;target25; | event 0 1 0 0 0 | onField 0 0 0 = 0 | event 0 1 1 0 0 | onField 0 1 0 = 4
            onField 0 1 1 = 5 | onField 0 1 2 = 3 | onField 0 0 0 = 0 | event 0 1 1 0 0 | onField 0 1 0 = 4 | event 0 1 0 0 0
            onField 0 0 0 = 1 | onField 0 0 2 = 0 | event 0 1 1 0 0 | event 0 1 0 0 0 | event 0 1 1 0 0 | onField 0 1 0 = 3
            onField 0 1 1 = 4 | onField 0 1 2 = 5
            """);
        e.edge(23, "a side that did not serve and makes a point (the last one of a set, too) ROTATES", """
            begun 2 sport volleyball;field2;target2; | event 0 1 1 0 0 | onField 0 1 0 = 3 | event 0 1 0 0 0 | onField 0 0 0 = 1
            event 0 1 0 0 0 | match 0 6 = 0 | event 0 1 0 0 0 | match 0 6 = 1 | onField 0 0 0 = 1 | event 0 1 0 0 0
            onField 0 0 0 = 0 | onField 0 0 1 = 1
            """);
        e.edge(23, "(the last one of a set, too)", """
            begun 2 sport volleyball;field2;target3; | 2* event 0 1 1 0 0 | onField 0 1 0 = 3 | event 0 1 0 0 0 | state 0 5 = 0
            event 0 1 1 0 0 | match 0 7 = 1 | onField 0 1 0 = 2 | onField 0 1 1 = 3
            """);
        e.edge(23, "field N (1 to 6; 2)", """
            begun 1 sport volleyball;field1;target3; | event 0 1 1 0 0 | onField 0 1 0 = 1 | onField 0 1 1 = NONE
            """);
        e.edge(23, "field N (1 to 6; 2)", """
            begun 6 sport volleyball;field6;target3; | event 0 1 1 0 0 | onField 0 1 0 = 7 | onField 0 1 5 = 6 | onField 0 1 6 = NONE
            """);
    }

    private static void tennisGames(Edges e) {
        e.edge(23, "a GAME is won by 4 points at least with 2 more than the other", """
            begun 1 sport tennis;field1;target2; | 3* event 0 1 0 0 0 | state 0 3 = 0 | event 0 1 0 0 0 | state 0 3 = 1
            state 0 1 = 0 | 3* event 0 1 1 0 0 | 3* event 0 1 0 0 0 | event 0 1 1 0 0 | state 0 2 = 4 | state 0 4 = 0
            event 0 1 0 0 0 | event 0 1 0 0 0 | state 0 1 = 5 | state 0 2 = 4 | event 0 1 1 0 0 | event 0 1 1 0 0 | state 0 4 = 0
            event 0 1 1 0 0 | state 0 4 = 1 | state 0 1 = 0 | state 0 2 = 0
            """);
        String level = "begun 1 sport tennis;field1;target2; | 4* event 0 1 0 0 0 | 4* event 0 1 1 0 0 | 4* event 0 1 0 0 0"
            + " | 4* event 0 1 1 0 0\n";
        e.edge(23, "at TARGET games each by 7 with 2 more", level + """
            state 0 3 = 2 | state 0 4 = 2 | 6* event 0 1 0 0 0 | state 0 1 = 6 | match 0 6 = 0 | event 0 1 0 0 0 | match 0 6 = 1
            state 0 3 = 0 | state 0 4 = 0 | state 0 1 = 0
            """);
        e.edge(23, "at TARGET games each by 7 with 2 more", level + """
            6* event 0 1 0 0 0 | 6* event 0 1 1 0 0 | event 0 1 1 0 0 | state 0 2 = 7 | match 0 7 = 0 | event 0 1 1 0 0
            match 0 7 = 1 | state 0 2 = 0
            """);
        // One short of TARGET each, or TARGET of one alone, a game goes to 4.
        e.edge(23, "at TARGET games each by 7", """
            begun 1 sport tennis;field1;target2; | 4* event 0 1 0 0 0 | 4* event 0 1 1 0 0 | 4* event 0 1 1 0 0 | state 0 4 = 2
            state 0 3 = 1 | 4* event 0 1 0 0 0 | state 0 3 = 2
            """);
    }

    private static void tennisSets(Edges e) {
        e.edge(23, "a SET by TARGET games at least with 2 more", """
            begun 1 sport tennis;field1;target2; | 7* event 0 1 0 0 0 | match 0 6 = 0 | event 0 1 0 0 0 | match 0 6 = 1
            state 0 0 = 1 | 4* event 0 1 0 0 0 | 4* event 0 1 1 0 0 | 4* event 0 1 0 0 0 | match 0 6 = 1 | state 0 3 = 2
            state 0 4 = 1 | 4* event 0 1 0 0 0 | match 0 6 = 2 | match 0 5 = 2
            """);
        e.edge(23, "or by TARGET and 1; two SETS won: ENDED", """
            begun 1 sport tennis;field1;target2; | 4* event 0 1 0 0 0 | 8* event 0 1 1 0 0 | 4* event 0 1 0 0 0
            7* event 0 1 1 0 0 | match 0 7 = 1 | match 0 5 = 1 | state 0 0 = 1 | 8* event 0 1 1 0 0 | match 0 7 = 2 | match 0 5 = 2
            state 0 0 = 1 | event 0 1 0 0 0 = -11
            """);
        e.edge(23, "two SETS won: ENDED", """
            begun 1 sport tennis;field1;target2; | 8* event 0 1 0 0 0 | 8* event 0 1 1 0 0 | match 0 5 = 1 | match 0 6 = 1
            match 0 7 = 1 | state 0 0 = 2 | 8* event 0 1 1 0 0 | match 0 5 = 2 | match 0 7 = 2 | state 0 0 = 2 | state 0 4 = 0
            """);
        // With the greatest target 25 games are needed.
        e.edge(23, "target N (2 to 25; 3)", """
            begun 1 sport tennis;field1;target25; | 96* event 0 1 1 0 0 | state 0 4 = 24 | match 0 7 = 0 | 4* event 0 1 1 0 0
            state 0 4 = 0 | match 0 7 = 1
            """);
    }

    private static void tennisServing(Edges e) {
        e.edge(23, "SERVER: side 0 in the first game of the match, then the other one in each further game", """
            begun 1 sport tennis;field1;target2; | state 0 5 = 0 | 3* event 0 1 1 0 0 | state 0 5 = 0 | event 0 1 1 0 0
            state 0 5 = 1 | 4* event 0 1 0 0 0 | state 0 5 = 0 | 4* event 0 1 0 0 0 | state 0 5 = 1 | 4* event 0 1 0 0 0
            match 0 6 = 1 | state 0 5 = 0 | 4* event 0 1 0 0 0 | state 0 5 = 1
            """);
        // Three games in the first set: the second begins with the other side.
        e.edge(23, "then the other one in each further game", """
            begun 1 sport tennis;field1;target3; | 12* event 0 1 0 0 0 | match 0 6 = 1 | state 0 5 = 1 | 4* event 0 1 0 0 0
            state 0 5 = 0
            """);
        e.edge(27, "served the last game", """
            begun 1 sport tennis;field1;target2; | 15* event 0 1 0 0 0 | state 0 5 = 1 | event 0 1 0 0 0 | match 0 5 = 2
            state 0 5 = 1 | state 0 0 = 1 | state 0 1 = 0 | state 0 3 = 0
            """);
    }

    private static void retiring(Edges e) {
        e.edge(23, "6 RETIRED: ENDED, the other side's score is 2", """
            begun 1 sport tennis;field1;target2; | event 0 6 0 0 0 = 1 | match 0 5 = 2 | match 0 6 = 0 | match 0 7 = 2
            event 0 1 0 0 0 = -11 | event 0 6 1 0 0 = -11
            """);
        e.edge(23, "6 RETIRED: ENDED, the other side's score is 2", """
            begun 1 sport tennis;field1;target2; | 8* event 0 1 1 0 0 | match 0 7 = 1 | event 0 6 1 0 0 = 9 | match 0 6 = 2
            match 0 7 = 1
            """);
        e.edge(27, "the game in which one RETIRED", """
            begun 1 sport tennis;field1;target2; | 8* event 0 1 0 0 0 | 4* event 0 1 1 0 0 | 3* event 0 1 0 0 0 | event 0 1 1 0 0
            event 0 6 1 0 0 | state 0 0 = 1 | state 0 1 = 3 | state 0 2 = 1 | state 0 3 = 0 | state 0 4 = 1 | state 0 5 = 1
            """);
    }

    private static void hits(Edges e) {
        String begin = "begun 1 sport baseball;field1;target2; | ";
        for (int bases = 1; bases <= 4; bases++) {
            e.edge(23, "the batter goes to that base (4: a RUN)", begin + "event 0 1 1 0 " + bases + " = 1 | state 0 4 = "
                + (bases == 4 ? 0 : 1 << bases - 1) + " | match 0 7 = " + (bases == 4 ? 1 : 0));
        }
        // Who stands on the first, second, third base, and a hit of so many.
        int[][] runs = {{0, 0, 1, 1}, {0, 1, 1, 1}, {1, 1, 1, 1}};
        for (int stands = 1; stands <= 3; stands++) {
            for (int bases = 1; bases <= 4; bases++) {
                int run = runs[stands - 1][bases - 1];
                int left = (run == 1 ? 0 : 1 << stands + bases - 1) | (bases == 4 ? 0 : 1 << bases - 1);
                e.edge(23, "who stands on a base goes on by so many, beyond the third is a RUN", begin + "event 0 1 1 0 "
                    + stands + " | event 0 1 1 0 " + bases + " | state 0 4 = " + left + " | match 0 7 = "
                    + (run + (bases == 4 ? 1 : 0)) + " | match 0 6 = 0");
            }
        }
        String full = begin + "3* event 0 1 1 0 1 | state 0 4 = 7 | match 0 7 = 0\n";
        e.edge(23, "beyond the third is a RUN", full + "event 0 1 1 0 1 | state 0 4 = 7 | match 0 7 = 1");
        e.edge(23, "beyond the third is a RUN", full + "event 0 1 1 0 2 | state 0 4 = 6 | match 0 7 = 2");
        e.edge(23, "beyond the third is a RUN", full + "event 0 1 1 0 3 | state 0 4 = 4 | match 0 7 = 3");
        e.edge(23, "(4: a RUN)", full + "event 0 1 1 0 4 | state 0 4 = 0 | match 0 7 = 4");
    }

    private static void walks(Edges e) {
        String begin = "begun 1 sport baseball;field1;target2; | ";
        e.edge(23, "2 BALL: the fourth one is a walk", begin + """
            3* event 0 2 1 0 0 | state 0 1 = 3 | state 0 4 = 0 | event 0 2 1 0 0 | state 0 1 = 0 | state 0 4 = 1 | match 0 7 = 0
            """);
        // On which bases they stand before the walk, by hits, and behind it.
        String[] hits = {"", "1", "2", "3", "1 1", "2 1", "3 1", "1 1 1"};
        int[] before = {0, 1, 2, 4, 3, 5, 1, 7};
        int[] after = {1, 3, 3, 5, 7, 7, 3, 7};
        for (int k = 0; k < hits.length; k++) {
            StringBuilder script = new StringBuilder(begin);
            for (String hit : hits[k].isEmpty() ? new String[0] : hits[k].split(" ")) {
                script.append("event 0 1 1 0 ").append(hit).append(" | ");
            }
            int home = before[k] == 7 ? 1 : 0;
            int runs = hits[k].equals("3 1") ? 1 : 0;
            script.append("state 0 4 = ").append(before[k]).append(" | match 0 7 = ").append(runs);
            script.append("\n4* event 0 2 1 0 0 | state 0 4 = ").append(after[k]).append(" | match 0 7 = ").append(runs + home);
            e.edge(23, "who stands on it to the second, who stands on that, being pushed, to the third, who stands there, "
                + "being pushed, home", script.toString());
        }
        // Second and third are held, the first is free: none is pushed.
        e.edge(23, "being pushed", begin + "2* event 0 1 1 0 1 | event 0 1 1 0 1 | event 0 1 1 0 2 | state 0 4 = 6"
            + "\nmatch 0 7 = 2 | 4* event 0 2 1 0 0 | state 0 4 = 7 | match 0 7 = 2");
    }

    private static void strikesAndOuts(Edges e) {
        String begin = "begun 1 sport baseball;field1;target2; | ";
        e.edge(23, "3 STRIKE: the third one is an OUT", begin + """
            2* event 0 3 1 0 0 | state 0 2 = 2 | state 0 3 = 0 | event 0 3 1 0 0 | state 0 2 = 0 | state 0 3 = 1
            """);
        e.edge(23, "Behind a hit, a walk, an out balls and strikes are 0.", begin + """
            3* event 0 2 1 0 0 | 2* event 0 3 1 0 0 | event 0 1 1 0 1 | state 0 1 = 0 | state 0 2 = 0
            2* event 0 3 1 0 0 | 4* event 0 2 1 0 0 | state 0 1 = 0 | state 0 2 = 0 | 3* event 0 2 1 0 0 | 3* event 0 3 1 0 0
            state 0 1 = 0 | state 0 2 = 0 | 3* event 0 2 1 0 0 | 2* event 0 3 1 0 0 | event 0 4 1 0 0 | state 0 1 = 0
            state 0 2 = 0 | state 0 3 = 2 | state 0 4 = 3
            """);
        e.edge(23, "With the third out the other side bats (bases empty, outs 0), or the inning is over.", begin + """
            event 0 1 1 0 3 | 2* event 0 4 1 0 0 | state 0 3 = 2 | state 0 4 = 4 | state 0 5 = 1 | event 0 2 1 0 0
            event 0 4 1 0 0 | state 0 3 = 0 | state 0 4 = 0 | state 0 5 = 0 | state 0 1 = 0 | state 0 0 = 0
            event 0 1 0 0 2 | 3* event 0 4 0 0 0 | state 0 0 = 1 | state 0 5 = 1 | state 0 3 = 0 | state 0 4 = 0
            """);
        e.edge(23, "in each side 1 bats first, then side 0", begin + "state 0 5 = 1 | 3* event 0 4 1 0 0 | state 0 5 = 0");
    }

    private static void baseballEnds(Edges e) {
        String begin = "begun 1 sport baseball;field1;target2; | ";
        e.edge(23, "From the last inning on it has ENDED: behind side 1's half", begin + """
            3* event 0 4 1 0 0 | event 0 1 0 0 4 | 3* event 0 4 0 0 0 | match 0 5 = 1 | state 0 0 = 1 | 2* event 0 4 1 0 0
            match 0 5 = 1 | event 0 4 1 0 0 | match 0 5 = 2 | match 0 6 = 1 | state 0 0 = 1 | state 0 5 = 1 | state 0 3 = 0
            event 0 4 0 0 0 = -11
            """);
        // Ahead in an inning before the last it goes on, behind each half of it.
        e.edge(23, "From the last inning on", begin + """
            3* event 0 4 1 0 0 | event 0 1 0 0 4 | match 0 5 = 1 | 3* event 0 4 0 0 0 | match 0 5 = 1 | state 0 5 = 1
            """);
        e.edge(23, "From the last inning on", "begun 1 sport baseball;field1;target3; | " + """
            3* event 0 4 1 0 0 | event 0 1 0 0 4 | 3* event 0 4 0 0 0 | 3* event 0 4 1 0 0 | match 0 5 = 1 | state 0 0 = 1
            state 0 5 = 0 | event 0 1 0 0 4 | match 0 5 = 1 | 3* event 0 4 0 0 0 | match 0 5 = 1 | 3* event 0 4 1 0 0
            match 0 5 = 2 | state 0 0 = 2
            """);
        // Level or behind, side 0 has its half.
        e.edge(23, "when side 0 has more runs", begin + """
            3* event 0 4 1 0 0 | 3* event 0 4 0 0 0 | 3* event 0 4 1 0 0 | match 0 5 = 1 | state 0 5 = 0 | event 0 1 0 0 1
            match 0 5 = 1 | event 0 1 0 0 4 | match 0 5 = 2 | match 0 6 = 2 | match 0 7 = 0
            """);
        e.edge(23, "or any time in side 0's, when side 0 has more runs", begin + """
            event 0 1 1 0 4 | 3* event 0 4 1 0 0 | 3* event 0 4 0 0 0 | 3* event 0 4 1 0 0 | event 0 1 0 0 4 | match 0 5 = 1
            3* event 0 1 0 0 1 | 3* event 0 2 0 0 0 | match 0 5 = 1 | event 0 2 0 0 0 | match 0 5 = 2 | match 0 6 = 2 | match 0 7 = 1
            """);
        e.edge(23, "at an inning's end (behind side 0's half) when the runs differ", begin + """
            event 0 1 1 0 4 | 3* event 0 4 1 0 0 | 3* event 0 4 0 0 0 | match 0 5 = 1 | 3* event 0 4 1 0 0 | 2* event 0 4 0 0 0
            match 0 5 = 1 | event 0 4 0 0 0 | match 0 5 = 2 | match 0 7 = 1 | state 0 0 = 1 | state 0 5 = 0
            """);
        e.edge(23, "when the runs differ", begin + """
            3* event 0 4 1 0 0 | 3* event 0 4 0 0 0 | 3* event 0 4 1 0 0 | 3* event 0 4 0 0 0 | match 0 5 = 1 | state 0 0 = 2
            event 0 1 1 0 4 | 3* event 0 4 1 0 0 | match 0 5 = 1 | 3* event 0 4 0 0 0 | match 0 5 = 2 | state 0 0 = 2
            """);
        e.edge(27, "outs and bases when side 0 goes ahead", begin + """
            3* event 0 4 1 0 0 | 3* event 0 4 0 0 0 | 3* event 0 4 1 0 0 | 2* event 0 4 0 0 0 | event 0 1 0 0 3 | event 0 2 0 0 0
            event 0 3 0 0 0 | event 0 1 0 0 2 | match 0 5 = 2 | state 0 0 = 1 | state 0 1 = 0 | state 0 2 = 0 | state 0 3 = 2
            state 0 4 = 2 | state 0 5 = 0
            """);
        e.edge(27, "batted last", begin + """
            3* event 0 4 1 0 0 | event 0 1 0 0 4 | 3* event 0 4 0 0 0 | event 0 1 1 0 1 | 3* event 0 4 1 0 0 | match 0 5 = 2
            state 0 5 = 1 | state 0 4 = 0 | state 0 3 = 0 | state 0 0 = 1
            """);
    }

    private static void baseballWithoutEnd(Edges e) {
        String words = "and at the end of the 20th inning behind TARGET of them anyhow";
        String inning = "3* event 0 4 1 0 0 | 3* event 0 4 0 0 0\n";
        e.edge(23, words, "begun 1 sport baseball;field1;target2;\n" + inning.repeat(21)
            + "match 0 5 = 1 | state 0 0 = 21 | 3* event 0 4 1 0 0 | match 0 5 = 1 | 2* event 0 4 0 0 0 | match 0 5 = 1"
            + "\nevent 0 4 0 0 0 | match 0 5 = 2 | match 0 6 = 0 | match 0 7 = 0 | state 0 0 = 21 | state 0 5 = 0");
        e.edge(23, words, "begun 1 sport baseball;field1;target25;\n" + inning.repeat(44)
            + "match 0 5 = 1 | state 0 0 = 44 | 3* event 0 4 1 0 0 | 2* event 0 4 0 0 0 | match 0 5 = 1"
            + "\nevent 0 4 0 0 0 | match 0 5 = 2 | state 0 0 = 44 | table 0 0 0 2 = 1");
    }

    private static void reviewBounds(Edges e) {
        e.edge(24, "UNKNOWN: the match, the row", """
            review 0 0 0 0 0 0 = UNKNOWN | begun 1 field1;legs2; | review 0 0 1 0 0 0 = UNKNOWN | review 0 0 NONE 0 0 0 = UNKNOWN
            event 0 1 0 0 0 = 1 | event 0 1 1 1 0 = 2 | review 2 0 0 0 0 0 = UNKNOWN | review -1 0 0 0 0 0 = UNKNOWN
            review MIN 0 0 0 0 0 = UNKNOWN | review MAX 0 0 0 0 0 = UNKNOWN | review 0 -1 0 0 0 0 = UNKNOWN
            review 0 2 0 0 0 0 = UNKNOWN | review 0 MIN 0 0 0 0 = UNKNOWN | review 0 MAX 0 0 0 0 = UNKNOWN
            review 0 2 9 9 9 9 = UNKNOWN | review 0 2 NONE 0 0 0 = UNKNOWN | review 0 -1 NONE 0 0 0 = UNKNOWN
            review 1 0 0 0 0 0 = UNKNOWN | review 0 1 0 0 0 0 = 0 | rows 0 0 = 2
            """);
        e.edge(24, "A REVIEW of a match that has begun", """
            league 2 1 field1;legs2;every1; | review 0 0 0 0 0 0 = UNKNOWN | walkOver 0 0 = 1 | review 0 0 0 0 0 0 = UNKNOWN
            review 0 0 NONE 0 0 0 = UNKNOWN | day 1 | lineUp 1 1 0 | lineUp 0 1 1 | start 1 = 1 | whistles 1
            review 1 2 1 0 1 0 = 0 | match 1 5 = 1
            """);
        // Those aside are rows no more.
        e.edge(24, "UNKNOWN: the match, the row", """
            begun 1 field1; | event 0 1 0 0 0 | review 0 0 1 0 9 0 = 1 | rows 0 0 = 0 | rows 0 1 = 1 | review 0 0 1 0 0 0 = UNKNOWN
            """);
    }

    private static void reviewLaws(Edges e) {
        e.edge(24, "-12, -17: by LAW 2, 7; -20: the same four numbers", """
            begun 1 field1; | event 0 1 0 0 7 = 1 | review 0 0 -2 0 0 0 = -12 | review 0 0 6 0 0 0 = -12 | review 0 0 MIN 0 0 0 = -12
            review 0 0 MAX 0 0 0 = -12 | review 0 0 1 2 0 7 = -12 | review 0 0 1 -1 0 7 = -12 | review 0 0 1 0 0 7 = -20
            review 0 0 1 0 0 8 = 0 | review 0 0 0 5 0 8 = 0 | review 0 0 0 5 0 8 = -20 | review 0 0 0 5 1 8 = 0
            """);
        e.edge(24, "-12, -17: by LAW 2, 7; -20: the same four numbers", """
            begun 1 sport baseball;field1; | event 0 1 1 3 2 = 1 | review 0 0 1 1 3 0 = -17 | review 0 0 1 1 3 5 = -17
            review 0 0 1 0 3 0 = -17 | review 0 0 1 2 3 0 = -12 | review 0 0 0 1 3 2 = -12 | review 0 0 5 1 3 2 = -12
            review 0 0 1 1 3 MIN = -17 | review 0 0 1 1 3 2 = -20 | review 0 0 1 1 3 1 = 0 | review 0 0 1 1 3 4 = 0
            review 0 0 2 1 3 0 = 0 | review 0 0 4 1 3 99 = 0
            """);
        e.edge(24, "An event that breaks law 2 or 7 by itself", """
            begun 1 sport volleyball;field1; | event 0 1 0 0 0 = 1 | review 0 0 0 0 0 0 = -12 | review 0 0 2 0 0 0 = -12
            review 0 0 6 0 0 0 = -12 | review 0 0 1 2 0 0 = -12 | review 0 0 1 1 0 0 = 0
            """);
        e.edge(24, "An event that breaks law 2 or 7 by itself", """
            begun 1 sport tennis;field1; | event 0 1 0 0 0 = 1 | review 0 0 5 0 0 0 = -12 | review 0 0 0 0 0 0 = -12
            review 0 0 6 2 0 0 = -12 | review 0 0 6 1 0 0 = 0 | match 0 5 = 2
            """);
        // Differing in one number that is not needed, it is another event.
        e.edge(24, "or has the same four numbers as that row, is not put in", """
            begun 1 field1; | event 0 0 1 2 3 = 1 | review 0 0 0 1 2 3 = -20 | review 0 0 0 0 2 3 = 0 | review 0 0 0 0 1 3 = 0
            review 0 0 0 0 1 4 = 0 | row 0 0 1 = 0 | row 0 0 2 = 1 | row 0 0 3 = 4 | review 0 0 3 0 0 4 = 0 | row 0 0 0 = 3
            """);
    }

    private static void sameRows(Edges e) {
        e.edge(24, "-20: the same four numbers", """
            begun 2 field2; | event 0 1 0 0 5 | event 0 1 1 2 6 | event 0 2 0 1 7 | event 0 3 1 3 8 | review 0 3 3 1 3 8 = -20
            review 0 2 2 0 1 7 = -20 | review 0 1 1 1 2 6 = -20 | review 0 0 1 0 0 5 = -20 | review 0 3 1 0 0 5 = 0
            review 0 3 1 0 0 5 = -20 | review 0 2 1 0 1 7 = 0 | review 0 1 1 1 3 6 = 0 | review 0 0 1 0 0 6 = 0
            """);
    }

    private static void reviewsInPlace(Edges e) {
        e.edge(24, "puts another event in the place of one of its rows", """
            begun 1 field1; | event 0 1 0 0 0 | event 0 1 1 1 0 | event 0 1 0 0 0 | review 0 1 2 0 0 5 = 0 | rows 0 0 = 3
            row 0 1 0 = 2 | row 0 1 1 = 0 | row 0 1 3 = 5 | match 0 6 = 2 | match 0 7 = 1 | review 0 2 1 1 1 0 = 0
            match 0 6 = 1 | match 0 7 = 2 | review 0 0 3 0 0 0 = 0 | match 0 6 = 0
            """);
        e.edge(24, "or takes that out (for good)", """
            begun 1 field1; | event 0 1 0 0 1 | event 0 1 1 1 2 | event 0 1 0 0 3 | review 0 1 NONE 0 0 0 = 0 | rows 0 0 = 2
            rows 0 1 = 0 | row 0 1 3 = 3 | match 0 7 = 0 | review 0 1 NONE MIN MAX 7 = 0 | rows 0 0 = 1 | row 0 0 3 = 1
            review 0 0 NONE 2 -1 -1 = 0 | rows 0 0 = 0 | review 0 0 NONE 0 0 0 = UNKNOWN | match 0 6 = 0 | match 0 5 = 1
            event 0 1 0 0 9 = 1 | row 0 0 3 = 9
            """);
        // A row that itself was told with side NONE, and the first and the last of several.
        e.edge(24, "with kind NONE the row is taken out", """
            begun 1 field1; | event 0 0 NONE NONE NONE = 1 | event 0 0 0 0 0 = 2 | event 0 1 0 0 0 = 3 | event 0 0 0 0 0 = 4
            match 0 5 = 2 | review 0 3 NONE 0 0 0 = 0 | match 0 5 = 1 | state 0 0 = 2 | review 0 0 NONE 0 0 0 = 1 | rows 0 0 = 1
            state 0 0 = 1 | row 0 0 4 = 1
            """);
    }

    private static void reviewsAside(Edges e) {
        e.edge(24, "rows that are BARRED now, perhaps the new one, too, are put ASIDE", """
            begun 3 field1; | event 0 5 0 0 1 | event 0 1 0 1 0 | event 0 1 1 3 0 | event 0 1 0 1 0 | match 0 6 = 2
            review 0 0 1 0 0 0 = 2 | rows 0 0 = 2 | rows 0 1 = 2 | match 0 6 = 1 | match 0 7 = 1 | row 0 0 6 = 1
            review 0 1 1 1 4 0 = 1 | rows 0 0 = 1 | rows 0 1 = 3 | match 0 7 = 0 | row 0 2 6 = 4
            """);
        e.edge(24, "behind those that are, for good, by their order", """
            begun 2 field1; | event 0 5 0 0 1 | event 0 1 0 1 10 | event 0 3 0 1 11 | event 0 1 1 2 12 | review 0 0 3 0 0 0 = 2
            row 0 0 7 = 10 | row 0 1 7 = 11 | review 0 1 1 1 3 13 = 1 | row 0 0 7 = 10 | row 0 1 7 = 11 | row 0 2 7 = 13
            row 0 3 7 = UNKNOWN | review 0 0 5 0 0 1 = 0 | rows 0 0 = 1 | rows 0 1 = 3
            """);
        // The second yellow is aside, so the goal behind it stands.
        e.edge(24, "(what is behind them is run without them)", """
            begun 3 field2; | event 0 5 0 0 2 | event 0 3 0 2 0 | event 0 3 0 1 0 | event 0 1 0 1 0 | review 0 0 4 0 0 0 = 1
            rows 0 0 = 3 | match 0 6 = 1 | onField 0 0 0 = 1 | onField 0 0 1 = NONE | state 0 6 = 0
            """);
        e.edge(24, "how many rows are put ASIDE by it", """
            begun 1 field1; | 2* event 0 0 0 0 0 | 3* event 0 1 0 0 0 | review 0 1 NONE 0 0 0 = 3 | rows 0 1 = 3
            review 0 0 NONE 0 0 0 = 0 | rows 0 1 = 3
            """);
    }

    private static void reviewsOfEnds(Edges e) {
        e.edge(24, "So a match that had ENDED may go on again, and the other way round.", """
            begun 1 field1; | whistles 0 | match 0 5 = 2 | review 0 2 NONE 0 0 0 = 0 | match 0 5 = 1 | event 0 0 0 0 0 = 3
            match 0 5 = 2 | event 0 1 0 0 0 = -11
            """);
        e.edge(24, "and the other way round", """
            begun 1 field1; | 5* event 0 1 0 0 0 | review 0 1 4 0 0 0 = 3 | match 0 5 = 2 | match 0 6 = 0 | match 0 7 = 3
            rows 0 0 = 2 | rows 0 1 = 3 | event 0 1 1 1 0 = -11
            """);
        // It counts again, and does not count any more, in the standings.
        e.edge(24, "Then the match is run anew from its beginning, row by row", """
            begun 1 field1; | event 0 1 0 0 0 | whistles 0 | table 0 0 0 6 = 3 | review 0 0 1 1 1 0 = 0 | table 0 0 0 6 = 0
            table 0 0 1 6 = 3 | review 0 3 NONE 0 0 0 = 0 | table 0 0 1 0 = 0 | table 0 0 1 6 = 0
            """);
        // Sent off no more: the yellows are counted anew, the field has its first order again.
        e.edge(24, "Then the match is run anew from its beginning, row by row", """
            begun 4 field3; | event 0 3 0 0 0 | event 0 3 0 0 0 | onField 0 0 0 = 1 | review 0 1 3 0 2 0 = 0 | onField 0 0 0 = 0
            onField 0 0 1 = 1 | onField 0 0 2 = 2 | event 0 3 0 2 0 = 3 | onField 0 0 2 = NONE
            """);
        e.edge(24, "Then the match is run anew from its beginning, row by row", """
            begun 2 sport volleyball;field2;target2; | event 0 1 1 0 0 | event 0 1 1 0 0 | onField 0 1 0 = 3 | match 0 7 = 1
            review 0 0 1 0 0 0 = 0 | match 0 7 = 0 | state 0 1 = 1 | state 0 2 = 1 | state 0 0 = 0 | onField 0 0 0 = 0
            onField 0 1 0 = 3 | state 0 5 = 1
            """);
    }

    private static void reviewsOfOtherSports(Edges e) {
        String words = "Then the match is run anew from its beginning, row by row";
        e.edge(24, words, """
            begun 1 sport tennis;field1;target2; | 6* event 0 1 0 0 0 | event 0 1 1 0 0 | state 0 3 = 1 | state 0 1 = 2 | state 0 2 = 1
            review 0 0 1 1 0 0 = 0 | state 0 3 = 1 | state 0 4 = 0 | state 0 1 = 1 | state 0 2 = 1 | state 0 5 = 1
            review 0 5 1 1 0 0 = 0 | review 0 4 1 1 0 0 = 0 | state 0 3 = 0 | state 0 1 = 3 | state 0 2 = 4 | state 0 5 = 0
            """);
        e.edge(24, words, """
            begun 1 sport tennis;field1;target2; | 8* event 0 1 0 0 0 | match 0 6 = 1 | state 0 0 = 1 | review 0 7 6 0 0 0 = 0
            match 0 5 = 2 | match 0 6 = 0 | match 0 7 = 2 | state 0 0 = 0 | state 0 3 = 1 | state 0 1 = 3
            """);
        e.edge(24, words, """
            begun 1 sport baseball;field1;target2; | event 0 1 1 0 2 | event 0 4 1 0 0 | event 0 2 1 0 0 | event 0 3 1 0 0
            state 0 4 = 2 | state 0 3 = 1 | state 0 1 = 1 | state 0 2 = 1 | review 0 0 1 1 0 1 = 0 | state 0 4 = 1 | state 0 3 = 1
            state 0 1 = 1 | state 0 2 = 1 | review 0 3 1 1 0 4 = 0 | match 0 7 = 2 | state 0 4 = 0 | state 0 1 = 0
            review 0 0 4 1 0 0 = 0 | match 0 7 = 1 | state 0 3 = 2 | review 0 2 4 1 0 0 = 1 | state 0 5 = 0 | match 0 7 = 0
            """);
        e.edge(24, words, """
            begun 2 sport volleyball;field1;target3; | 4* event 0 1 0 0 0 | event 0 5 1 2 3 | state 0 1 = 1 | state 0 7 = 1
            review 0 2 1 1 0 0 = 0 | match 0 6 = 1 | state 0 1 = 0 | state 0 0 = 1 | state 0 7 = 1 | review 0 1 1 1 0 0 = 0
            match 0 6 = 0 | state 0 1 = 2 | state 0 2 = 2 | state 0 0 = 0 | onField 0 1 0 = 3
            """);
    }

    private static void rows(Edges e) {
        e.edge(25, "UNKNOWN; OUTSIDE.", """
            rows 0 0 = UNKNOWN | league 2 1 field1; | rows 1 0 = UNKNOWN | rows -1 0 = UNKNOWN | rows MIN 0 = UNKNOWN
            rows MAX 0 = UNKNOWN | rows 1 2 = UNKNOWN | rows 0 -1 = OUTSIDE | rows 0 2 = OUTSIDE | rows 0 MIN = OUTSIDE
            rows 0 MAX = OUTSIDE | rows 0 0 = 0 | rows 0 1 = 0 | walkOver 0 0 = 1 | rows 0 0 = 0 | rows 0 1 = 0 | rows 0 2 = OUTSIDE
            """);
        e.edge(25, "How many rows a match has (what = 0), how many are ASIDE (1).", """
            begun 1 field1; | rows 0 0 = 0 | rows 0 1 = 0 | event 0 1 0 0 0 | event 0 1 0 9 0 = -14 | event 0 1 0 0 0
            rows 0 0 = 2 | rows 0 1 = 0 | review 0 0 1 1 0 0 = 1 | rows 0 0 = 1 | rows 0 1 = 1
            """);
        e.edge(25, "How many rows a match has (what = 0), how many are ASIDE (1).", """
            begun 1 field1; | 200* event 0 1 0 0 @ = 1.. | rows 0 0 = 200 | row 0 199 3 = 199 | review 0 0 4 0 0 0 = 199
            rows 0 0 = 1 | rows 0 1 = 199 | row 0 0 7 = 1 | row 0 198 7 = 199 | row 0 199 7 = UNKNOWN
            """);
    }

    private static void row(Edges e) {
        e.edge(26, "0 kind, 1 side, 2 person, 3 other. Of those ASIDE: 4 to 7. UNKNOWN; OUTSIDE.", """
            row 0 0 0 = UNKNOWN | begun 1 field1; | row 0 0 0 = UNKNOWN | row 0 0 4 = UNKNOWN | event 0 1 0 0 5 | event 0 1 1 1 6
            row 0 0 0 = 1 | row 0 1 1 = 1 | row 0 1 2 = 1 | row 0 1 3 = 6 | row 0 2 0 = UNKNOWN | row 0 -1 0 = UNKNOWN
            row 0 MIN 0 = UNKNOWN | row 0 MAX 3 = UNKNOWN | row 1 0 0 = UNKNOWN | row -1 0 0 = UNKNOWN | row MAX 0 0 = UNKNOWN
            row 0 0 -1 = OUTSIDE | row 0 0 8 = OUTSIDE | row 0 0 MIN = OUTSIDE | row 0 0 MAX = OUTSIDE | row 0 0 4 = UNKNOWN
            review 0 0 1 0 1 7 = 1 | row 0 0 4 = 1 | row 0 0 5 = 0 | row 0 0 6 = 1 | row 0 0 7 = 7 | row 0 1 4 = UNKNOWN
            row 0 1 0 = UNKNOWN | row 0 -1 7 = UNKNOWN | row 0 0 0 = 1 | row 0 0 3 = 6
            """);
        // There is neither such a row nor such a number: the first of both counts.
        e.edge(26, "Calls answer, the first of these that fits", """
            begun 1 field1; | row 0 0 8 = UNKNOWN | row 0 0 -1 = UNKNOWN | event 0 1 0 0 0 | row 0 1 8 = UNKNOWN | row 0 -1 -1 = UNKNOWN
            row 1 0 8 = UNKNOWN | row 0 0 8 = OUTSIDE
            """);
        e.edge(26, "Of row i of a match", """
            league 2 1 field1; | row 0 0 0 = UNKNOWN | row 0 0 7 = UNKNOWN | walkOver 0 0 = 1 | row 0 0 0 = UNKNOWN
            """);
        e.edge(26, "(NONE, and others, may be what was told.)", """
            begun 1 field1; | event 0 0 NONE UNKNOWN OUTSIDE = 1 | event 0 0 MIN MAX 0 = 2 | row 0 0 1 = NONE | row 0 0 2 = UNKNOWN
            row 0 0 3 = OUTSIDE | row 0 1 1 = MIN | row 0 1 2 = MAX | row 0 1 3 = 0 | row 0 1 0 = 0
            """);
    }

    private static void states(Edges e) {
        e.edge(27, "UNKNOWN; OUTSIDE; STATE: it has not, or was walked over.", """
            state 0 0 = UNKNOWN | league 2 1 field1;legs2;every1; | state 2 0 = UNKNOWN | state -1 0 = UNKNOWN
            state MIN 0 = UNKNOWN | state MAX 0 = UNKNOWN | state 2 8 = UNKNOWN | state 0 -1 = OUTSIDE | state 0 8 = OUTSIDE
            state 0 MIN = OUTSIDE | state 0 MAX = OUTSIDE | state 0 0 = STATE | state 0 7 = STATE | lineUp 0 0 0 | lineUp 1 0 1
            state 0 0 = STATE | start 0 = 1 | 8* state 0 @ = 0 | state 0 8 = OUTSIDE | day 1 | walkOver 1 0 = 1 | state 1 0 = STATE
            state 1 8 = OUTSIDE
            """);
        e.edge(27, "what a sport has not is 0", """
            begun 2 field1; | event 0 1 0 0 0 | event 0 5 1 2 3 | event 0 0 0 0 0 | state 0 0 = 1 | 5* state 0 1 = 0
            state 0 2 = 0 | state 0 3 = 0 | state 0 4 = 0 | state 0 5 = 0 | state 0 6 = 0 | state 0 7 = 1
            """);
        e.edge(27, "what a sport has not is 0", """
            begun 2 sport volleyball;field1; | event 0 1 0 0 0 | event 0 5 0 0 1 | state 0 1 = 1 | state 0 3 = 0 | state 0 4 = 0
            state 0 6 = 1 | state 0 7 = 0
            """);
        e.edge(27, "what a sport has not is 0", """
            begun 2 sport tennis;field1; | 5* event 0 1 0 0 0 | state 0 3 = 1 | state 0 1 = 1 | state 0 6 = 0 | state 0 7 = 0
            """);
        e.edge(27, "what a sport has not is 0", """
            begun 2 sport baseball;field1; | event 0 2 1 0 0 | event 0 3 1 0 0 | state 0 1 = 1 | state 0 2 = 1 | state 0 6 = 0
            state 0 7 = 0
            """);
        String last = "of volleyball, tennis the set, of baseball the inning, from 0 on, when it has ENDED the last one";
        e.edge(27, last, """
            begun 1 sport volleyball;field1;target2; | state 0 0 = 0 | 2* event 0 1 0 0 0 | state 0 0 = 1 | 2* event 0 1 0 0 0
            state 0 0 = 2 | event 0 1 0 0 0 | state 0 0 = 2 | event 0 1 0 0 0 | match 0 5 = 2 | state 0 0 = 2
            """);
        e.edge(27, last, """
            begun 1 sport tennis;field1;target2; | state 0 0 = 0 | 8* event 0 1 0 0 0 | state 0 0 = 1 | 7* event 0 1 0 0 0
            state 0 0 = 1 | event 0 1 0 0 0 | match 0 5 = 2 | state 0 0 = 1
            """);
        e.edge(27, last, """
            begun 1 sport baseball;field1;target2; | state 0 0 = 0 | event 0 1 1 0 4 | 3* event 0 4 1 0 0 | state 0 0 = 0
            3* event 0 4 0 0 0 | state 0 0 = 1 | 3* event 0 4 1 0 0 | 3* event 0 4 0 0 0 | match 0 5 = 2 | state 0 0 = 1
            """);
        e.edge(27, "PHASE 0 and 2 are halves, 1 the break", """
            begun 1 field1; | event 0 1 0 0 0 = 1 | event 0 0 0 0 0 = 2 | state 0 0 = 1 | event 0 1 0 0 0 = -13 | event 0 0 0 0 0 = 3
            state 0 0 = 2 | event 0 1 0 0 0 = 4
            """);
        e.edge(27, "of football 3 behind the last whistle", """
            begun 1 field1; | whistles 0 | state 0 0 = 3
            """);
        e.edge(27, "A set, game or third out that ended the match leaves 0 in 1 to 4", """
            begun 1 sport volleyball;field1;target2; | 4* event 0 1 0 0 0 | event 0 1 1 0 0 | 3* event 0 1 0 0 0 | match 0 5 = 2
            state 0 1 = 0 | state 0 2 = 0 | state 0 3 = 0 | state 0 4 = 0 | state 0 0 = 2
            """);
        e.edge(27, "A set, game or third out that ended the match leaves 0 in 1 to 4", """
            begun 1 sport tennis;field1;target2; | 8* event 0 1 0 0 0 | 4* event 0 1 1 0 0 | 8* event 0 1 0 0 0 | event 0 1 1 0 0
            4* event 0 1 0 0 0 | match 0 5 = 2 | state 0 1 = 0 | state 0 2 = 0 | state 0 3 = 0 | state 0 4 = 0 | state 0 0 = 1
            """);
        e.edge(27, "A set, game or third out that ended the match leaves 0 in 1 to 4", """
            begun 1 sport baseball;field1;target2; | event 0 1 1 0 4 | 3* event 0 4 1 0 0 | 3* event 0 4 0 0 0 | 3* event 0 4 1 0 0
            event 0 1 0 0 3 | 2* event 0 4 0 0 0 | 2* event 0 2 0 0 0 | 3* event 0 3 0 0 0 | match 0 5 = 2 | state 0 1 = 0
            state 0 2 = 0 | state 0 3 = 0 | state 0 4 = 0 | state 0 0 = 1
            """);
    }

    private static void fields(Edges e) {
        e.edge(28, "NONE: there is none such, or the match has not begun. UNKNOWN; OUTSIDE: the side.", """
            onField 0 0 0 = UNKNOWN | league 2 2 field2;legs2;every1; | onField 2 0 0 = UNKNOWN | onField -1 0 0 = UNKNOWN
            onField MIN 0 0 = UNKNOWN | onField MAX 0 0 = UNKNOWN | onField 2 2 0 = UNKNOWN | onField 0 -1 0 = OUTSIDE
            onField 0 2 0 = OUTSIDE | onField 0 MIN 0 = OUTSIDE | onField 0 MAX 0 = OUTSIDE | onField 0 2 -1 = OUTSIDE
            onField 0 0 0 = NONE | lineUp 0 0 0 | lineUp 1 0 0 | lineUp 2 0 1 | lineUp 3 0 1 | onField 0 0 0 = NONE | start 0 = 1
            onField 0 0 -1 = NONE | onField 0 0 0 = 0 | onField 0 0 1 = 1 | onField 0 0 2 = NONE | onField 0 1 1 = 3
            onField 0 1 2 = NONE | onField 0 0 MIN = NONE | onField 0 0 MAX = NONE | day 1 | walkOver 1 0 = 1 | onField 1 0 0 = NONE
            """);
        // When the match has ended, they are on the field as they were then.
        e.edge(28, "Person k on the field of a side, in order", """
            begun 3 field3; | event 0 4 0 1 0 | whistles 0 | onField 0 0 0 = 0 | onField 0 0 1 = 2 | onField 0 0 2 = NONE
            onField 0 1 2 = 5
            """);
        e.edge(28, "NONE: there is none such", """
            begun 1 field1; | event 0 4 0 0 0 | onField 0 0 0 = NONE | onField 0 1 0 = 1
            """);
    }
}
