/** Promises 1 to 6 and section 2: a new object, the text, its tokens, its faults, the rules. */
final class EdgesText {
    private static final String[] STATEMENTS = {"legs", "every", "rest", "field", "subs", "target", "walkover", "cards",
        "red", "seed"};
    private static final int[] LEAST = {1, 1, 1, 1, 0, 2, 1, 1, 1, 0};
    private static final int[] MOST = {4, 30, 9, 6, 5, 25, 9, 9, 9, 999};
    private static final int[] FIRST = {1, 7, 1, 2, 2, 3, 3, 3, 1, 0};
    private static final String[] BOUNDS = {"legs N (1 to 4; 1)", "every N (1 to 30; 7)", "rest N (1 to 9; 1)",
        "field N (1 to 6; 2)", "subs N (0 to 5; 2)", "target N (2 to 25; 3)", "walkover N (1 to 9; 3)",
        "cards N (1 to 9; 3)", "red N (1 to 9; 1)", "seed N (0 to 999; 0)"};

    private EdgesText() {
    }

    static void tell(Edges e) {
        newObject(e);
        bytes(e);
        full(e);
        wiping(e);
        competitions(e);
        wherefaults(e);
        tokens(e);
        sports(e);
        points(e);
        orders(e);
        numbers(e);
        firstFaults(e);
        kinds(e);
        words(e);
        toldBefore(e);
        theLeast(e);
        rules(e);
    }

    private static void newObject(Edges e) {
        e.edge(1, "Nothing but TODAY.", """
            8* count @ = 0
            fault = NONE | wipe = 0 | rule 0 0 = UNKNOWN | competition = 0
            """);
        e.edge(1, "TODAY is one, 0 at first, that only goes on.", """
            count 7 = 0 | day -1 = OUTSIDE | day 0 = OUTSIDE | day 1 = 0 | count 7 = 1 | day 0 = OUTSIDE | count 7 = 1
            """);
        e.edge(1, "UNKNOWN (a thing that there is not)", """
            register 0 0 0 0 = UNKNOWN | enter 0 0 = UNKNOWN | plan 0 0 = UNKNOWN | match 0 0 = UNKNOWN
            breaks 0 0 = UNKNOWN | postpone 0 1 = UNKNOWN | moved 0 = NONE | deduct 0 0 1 = UNKNOWN
            eligible 0 0 0 = UNKNOWN | lineUp 0 0 0 = UNKNOWN | start 0 = UNKNOWN | walkOver 0 0 = UNKNOWN
            event 0 0 0 0 0 = UNKNOWN | review 0 0 0 0 0 0 = UNKNOWN | rows 0 0 = UNKNOWN | row 0 0 0 = UNKNOWN
            state 0 0 = UNKNOWN | onField 0 0 0 = UNKNOWN | table 0 0 0 0 = UNKNOWN | standing 0 0 0 = UNKNOWN
            parted 0 0 0 = UNKNOWN | can 0 0 = UNKNOWN | witness 0 = UNKNOWN | cut = 0 | firsts 0 0 = UNKNOWN
            pot 0 0 = UNKNOWN | ways = STATE | chance 0 0 = UNKNOWN | ball 0 true = STATE | drawn 0 = UNKNOWN
            assign 0 = 0 | officialOf 0 = UNKNOWN
            """);
        e.edge(1, "Whatever has a number has it from 0 on, in the order in which it came.", """
            2* club 0 0 = 0.. | 2* person = 0.. | 2* official 0 0 = 0.. | 2* competition = 0..
            enter 0 0 | enter 0 1 | plan 0 0 = 0 | enter 1 0 | enter 1 1 | plan 1 0 = 1
            """);
    }

    private static void bytes(Edges e) {
        e.edge(2, "RULES are a text, of bytes 10 and 32 to 126", """
            sign 9 = OUTSIDE | sign 10 = 1 | sign 11 = OUTSIDE
            sign 31 = OUTSIDE | sign 32 = 2 | sign 126 = 3 | sign 127 = OUTSIDE
            """);
        e.edge(2, "OUTSIDE: it is none of those", """
            sign 0 = OUTSIDE | sign -1 = OUTSIDE | sign 13 = OUTSIDE | sign 255 = OUTSIDE | sign 256 = OUTSIDE
            sign MIN = OUTSIDE | sign MAX = OUTSIDE
            """);
        // A number whose lowest eight or sixteen bits are a byte of the text is none all the same.
        e.edge(2, "OUTSIDE: it is none of those", """
            sign 266 = OUTSIDE | sign 288 = OUTSIDE | sign -246 = OUTSIDE | sign -224 = OUTSIDE | sign 65568 = OUTSIDE
            sign -2147483616 = OUTSIDE | wipe = 0
            """);
        e.edge(2, "A byte comes behind the text: how long it is.", """
            95* sign 32 = 1.. | wipe = 95 | sign 108 = 1 | sign 101 = 2 | sign 103 = 3 | sign 115 = 4 | sign 52 = 5
            sign 59 = 6 | competition = 0 | rule 0 6 = 4
            """);
    }

    private static void full(Edges e) {
        e.edge(2, "400 at most", """
            399* sign 32 = 1.. | sign 32 = 400 | sign 32 = ROOM | sign 10 = ROOM | wipe = 400 | sign 32 = 1
            """);
        e.edge(2, "OUTSIDE: it is none of those; ROOM.", """
            400* sign 32 | sign 127 = OUTSIDE | sign 126 = ROOM
            """);
        // The 400th byte is read as the others are.
        e.edge(4, "400 at most", """
            394* sign 32 | sign 108 | sign 101 | sign 103 | sign 115 | sign 52 = 399 | sign 59 = 400
            competition = 0 | fault = NONE | rule 0 6 = 4
            """);
        e.edge(5, "the end: at the text's length", """
            395* sign 32 | sign 108 | sign 101 | sign 103 | sign 115 | sign 52 = 400 | competition = -12 | fault = 400
            """);
    }

    private static void wiping(Edges e) {
        e.edge(3, "The text is empty: how long it was.", """
            wipe = 0 | sign 35 = 1 | wipe = 1 | wipe = 0 | sign 35 = 1 | sign 35 = 2 | wipe = 2 | competition = 0
            """);
        e.edge(3, "The text is empty: how long it was.", """
            400* sign 59 | sign 59 = ROOM | wipe = 400 | wipe = 0 | sign 32 = 1
            """);
        // To wipe the text is no reading of it.
        e.edge(3, "Where the FAULT of the latest competition() was", """
            rules # = -11 | fault = 0 | sign 32 | wipe = 1 | fault = 0
            """);
    }

    private static void competitions(Edges e) {
        e.edge(4, "A COMPETITION (4 at most)", """
            4* competition = 0.. | competition = ROOM | count 4 = 4 | rule 3 0 = 0 | rule 4 0 = UNKNOWN
            """);
        e.edge(4, "The text, which is empty then", """
            rules legs2; = 0 | wipe = 0 | rules legs3; = 1 | rule 0 6 = 2 | rule 1 6 = 3
            """);
        e.edge(4, "The text, which is empty then", """
            rules legs5; = -14 | wipe = 0 | count 4 = 0 | competition = 0 | rule 0 6 = 1
            """);
        e.edge(4, "ROOM (the text stays; asked first)", """
            4* competition | rules legs5; = ROOM | wipe = 6
            """);
        e.edge(4, "ROOM (the text stays; asked first)", """
            4* competition | competition = ROOM | rules legs4; = ROOM | competition = ROOM | sign 32 = 7
            """);
        // What a text with a fault said is not in the next one's rules.
        e.edge(4, "its number; -10 less the FAULT", """
            rules sport tennis;points 9 9 9;redo;order lots;seed 7;legs0; = -14
            competition = 0 | rule 0 0 = 0 | rule 0 1 = 3 | rule 0 2 = 1 | rule 0 3 = 0 | rule 0 4 = 2 | rule 0 5 = 0
            rule 0 15 = 0 | rule 0 16 = 0 | rule 0 17 = 1 | rule 0 18 = NONE
            """);
        e.edge(4, "its number; -10 less the FAULT", """
            rules # = -11 | rules ; = -12 | rules a; = -13 | rules legs0; = -14 | rules redo;redo; = -15 | count 4 = 0
            """);
        e.edge(4, "in any order, none needed", """
            rules = 0 | rules ~ ~ = 1 | rules redo;legs2;sport tennis; = 2 | rules sport tennis;legs2;redo; = 3
            rule 2 5 = 1 | rule 3 5 = 1 | rule 2 6 = 2 | rule 3 6 = 2 | rule 2 0 = 2 | rule 3 0 = 2
            """);
    }

    private static void wherefaults(Edges e) {
        e.edge(5, "NONE: it had none, or ROOM", """
            fault = NONE | competition = 0 | fault = NONE | rules # = -11 | fault = 0 | competition = 1 | fault = NONE
            """);
        e.edge(5, "NONE: it had none, or ROOM", """
            2* competition | rules  # = -11 | fault = 1 | 2* competition = 2.. | rules # = ROOM | fault = NONE
            """);
        // The text stays behind ROOM, but a fault that was told before is the latest's no more.
        e.edge(5, "Where the FAULT of the latest competition() was", """
            3* competition | rules redo;# = -11 | fault = 5 | sign 32 | fault = 5 | competition = 3 | fault = NONE
            competition = ROOM | fault = NONE
            """);
        e.edge(5, "Where the FAULT of the latest competition() was", """
            rules # = -11 | fault = 0 | rules redo;; = -12 | fault = 5
            """);
    }

    /** A text of rules on its own: its fault and where that is, or 0 and NONE. */
    private static void fault(Edges e, String words, String text, int kind, int at) {
        e.edge(4, words, "rules " + text + " = " + (kind == 0 ? 0 : -10 - kind) + " | fault = " + at);
    }

    private static void right(Edges e, String words, String text) {
        fault(e, words, text, 0, SportsHouse.NONE);
    }

    private static void tokens(Edges e) {
        String wordsBound = "WORDS (a to z side by side, 12 at most)";
        fault(e, wordsBound, "abcdefghijkl;", 3, 0);
        fault(e, wordsBound, "abcdefghijklm;", 1, 0);
        fault(e, wordsBound, "sport abcdefghijkl;", 3, 6);
        fault(e, wordsBound, "sport abcdefghijklm;", 1, 6);
        fault(e, wordsBound, "order zzzzzzzzzzzz;", 3, 6);
        fault(e, wordsBound, "order zzzzzzzzzzzzz;", 1, 6);
        fault(e, wordsBound, "redoredoredoredo;", 1, 0);
        String numbersBound = "NUMBERS (digits side by side, 3 at most)";
        right(e, numbersBound, "seed 999;");
        right(e, numbersBound, "seed 000;");
        fault(e, numbersBound, "seed 0000;", 1, 5);
        fault(e, numbersBound, "seed 1000;", 1, 5);
        fault(e, numbersBound, "seed 4294967296;", 1, 5);
        right(e, numbersBound, "legs 004;");
        fault(e, numbersBound, "legs 0004;", 1, 5);
        String blanks = "blanks (10, 32) between";
        right(e, blanks, "~legs~~4~;~");
        right(e, blanks, "legs4;points3 1 0;order diff,lots;");
        fault(e, blanks, "le gs 4;", 3, 0);
        fault(e, blanks, "every 1 2;", 2, 8);
        fault(e, blanks, "points 310;", 4, 7);
        e.edge(6, blanks, "rules ~every~12~;~seed7;legs2; = 0 | rule 0 7 = 12 | rule 0 15 = 7 | rule 0 6 = 2");
        e.edge(6, numbersBound, "rules every 030;rest 9;seed 099; = 0 | rule 0 7 = 30 | rule 0 8 = 9 | rule 0 15 = 99");
    }

    private static void sports(Edges e) {
        String words = "sport S (football, volleyball, tennis or baseball; at first football)";
        e.edge(6, words, """
            rules = 0 | rule 0 0 = 0 | rules sport volleyball; = 1 | rule 1 0 = 1 | rules sport tennis; = 2 | rule 2 0 = 2
            rules sport baseball; = 3 | rule 3 0 = 3
            """);
        e.edge(6, words, "rules sport football; = 0 | rule 0 0 = 0");
        fault(e, words, "sport footbal;", 3, 6);
        fault(e, words, "sport footballs;", 3, 6);
        fault(e, words, "sport;", 2, 5);
        fault(e, words, "sport tennis football;", 2, 13);
        fault(e, words, "sport 0;", 2, 6);
    }

    private static void points(Edges e) {
        String words = "points N N N (for a win W, a draw D, a loss L, 0 to 9; D not above W, L not above D; 3 1 0)";
        e.edge(6, words, """
            rules = 0 | rule 0 1 = 3 | rule 0 2 = 1 | rule 0 3 = 0
            rules points 9 9 9; = 1 | rule 1 1 = 9 | rule 1 2 = 9 | rule 1 3 = 9
            rules points 0 0 0; = 2 | rule 2 1 = 0 | rule 2 2 = 0 | rule 2 3 = 0
            rules points 9 5 2; = 3 | rule 3 1 = 9 | rule 3 2 = 5 | rule 3 3 = 2
            """);
        fault(e, words, "points 10 1 0;", 4, 7);
        fault(e, words, "points 10 10 10;", 4, 7);
        fault(e, words, "points 999 1 0;", 4, 7);
        right(e, words, "points 4 4 0;");
        fault(e, "(D above W, L above D: at D, L)", "points 4 5 0;", 4, 9);
        fault(e, "(D above W, L above D: at D, L)", "points 4 10 0;", 4, 9);
        right(e, words, "points 4 3 3;");
        fault(e, "(D above W, L above D: at D, L)", "points 4 3 4;", 4, 11);
        fault(e, "(D above W, L above D: at D, L)", "points 0 0 1;", 4, 11);
        fault(e, "(D above W, L above D: at D, L)", "points 0 1 0;", 4, 9);
        fault(e, words, "points 3 1;", 2, 10);
        fault(e, words, "points 3 1 0 0;", 2, 13);
        fault(e, words, "points;", 2, 6);
    }

    private static void orders(Edges e) {
        String words = "order KEY { COMMA KEY } (of diff, scored, wins, away, head, fair, lots, each once; diff, scored)";
        e.edge(6, words, """
            rules = 0 | rule 0 4 = 2 | rule 0 16 = 0 | rule 0 17 = 1 | 5* rule 0 18 = NONE | rule 0 22 = NONE
            rules order lots; = 1 | rule 1 4 = 1 | rule 1 16 = 6 | rule 1 17 = NONE | rule 1 22 = NONE
            rules order diff,scored,wins,away,head,fair,lots; = 2 | rule 2 4 = 7 | rule 2 16 = 0 | rule 2 17 = 1
            rule 2 18 = 2 | rule 2 19 = 3 | rule 2 20 = 4 | rule 2 21 = 5 | rule 2 22 = 6
            """);
        fault(e, words, "order;", 2, 5);
        fault(e, words, "order ,diff;", 2, 6);
        fault(e, words, "order diff,;", 2, 11);
        fault(e, words, "order diff,,scored;", 2, 11);
        fault(e, words, "order diff scored;", 2, 11);
        fault(e, words, "order diff,diff;", 5, 11);
        fault(e, words, "order diff,scored,diff;", 5, 18);
        for (String key : new String[] {"scored", "wins", "away", "head", "fair", "lots"}) {
            fault(e, words, "order " + key + "," + key + ";", 5, 7 + key.length());
            fault(e, words, "order " + key + ",diff," + key + ";", 5, 12 + key.length());
        }
        fault(e, words, "order diff,scored,wins,away,head,fair,lots,diff;", 5, 43);
        fault(e, words, "order diff,scored,wins,away,head,fair,lots,;", 2, 43);
        fault(e, words, "order diff,scored,wins,away,head,fair,lots,goals;", 3, 43);
        fault(e, words, "order points;", 3, 6);
        fault(e, words, "order dif;", 3, 6);
        fault(e, words, "order diffs;", 3, 6);
    }

    private static void numbers(Edges e) {
        for (int k = 0; k < STATEMENTS.length; k++) {
            String word = STATEMENTS[k];
            int at = word.length() + 1;
            int what = 6 + k;
            e.edge(6, BOUNDS[k], "rules = 0 | rule 0 " + what + " = " + FIRST[k]
                + "\nrules " + word + " " + LEAST[k] + "; = 1 | rule 1 " + what + " = " + LEAST[k]
                + "\nrules " + word + " " + MOST[k] + "; = 2 | rule 2 " + what + " = " + MOST[k]);
            if (LEAST[k] > 0) {
                fault(e, BOUNDS[k], word + " " + (LEAST[k] - 1) + ";", 4, at);
            }
            if (MOST[k] < 999) {
                fault(e, BOUNDS[k], word + " " + (MOST[k] + 1) + ";", 4, at);
                fault(e, BOUNDS[k], word + " 999;", 4, at);
            }
            // There is no sign in front of a number.
            fault(e, BOUNDS[k], word + " -1;", 1, at);
            fault(e, BOUNDS[k], word + ";", 2, at - 1);
        }
        String redo = "redo (not)";
        e.edge(6, redo, "rules = 0 | rule 0 5 = 0 | rules redo; = 1 | rule 1 5 = 1");
        fault(e, redo, "redo 1;", 2, 5);
        fault(e, redo, "redo", 2, 4);
    }

    private static void firstFaults(Edges e) {
        String none = "1 a byte that begins no TOKEN";
        // The neighbours of a to z, of the digits, of the comma and the semicolon, and the last bytes there are.
        for (int c : new int[] {33, 43, 45, 47, 58, 60, 64, 65, 90, 96, 123, 125, 126}) {
            e.edge(4, none, "sign " + c + " | competition = -11 | fault = 0");
            e.edge(4, none, "sign 32 | sign 32 | sign " + c + " | competition = -11 | fault = 2");
        }
        fault(e, none, "legs 4;}", 1, 7);
        fault(e, none, "legs 4}", 1, 6);
        fault(e, none, "legs}4;", 1, 4);
        fault(e, none, "points 3 1 #", 1, 11);
        fault(e, none, "order diff#", 1, 10);
        fault(e, none, "order diff,#", 1, 11);
        fault(e, none, "order#", 1, 5);
        fault(e, none, "sport#", 1, 5);
        fault(e, none, "Legs 4;", 1, 0);
        String met = "(at its first byte; met when the TOKEN before it was right)";
        fault(e, met, "legs 5 #", 4, 5);
        fault(e, met, "chess #", 3, 0);
        fault(e, met, "redo;redo#", 5, 5);
        fault(e, met, "legs,#", 2, 4);
        fault(e, met, "legs 4 #", 1, 7);
        fault(e, met, "redo 0000;", 1, 5);
        fault(e, met, "redo redoredoredoredo;", 1, 5);
        fault(e, met, "legs 5 0000;", 4, 5);
    }

    private static void kinds(Edges e) {
        String words = "2 a TOKEN, or the end, of another kind than may stand there (at it; the end: at the text's length)";
        fault(e, words, ";", 2, 0);
        fault(e, words, ",", 2, 0);
        fault(e, words, "7;", 2, 0);
        fault(e, words, "legs 4;;", 2, 7);
        fault(e, words, "legs 4,", 2, 6);
        fault(e, words, "legs,4;", 2, 4);
        fault(e, words, "legs 4 4;", 2, 7);
        fault(e, words, "legs 4 legs 4;", 2, 7);
        fault(e, words, "sport", 2, 5);
        fault(e, words, "sport tennis", 2, 12);
        fault(e, words, "sport tennis  ", 2, 14);
        fault(e, words, "points", 2, 6);
        fault(e, words, "points 3", 2, 8);
        fault(e, words, "points 3 1", 2, 10);
        fault(e, words, "points 3 1 0", 2, 12);
        fault(e, words, "order", 2, 5);
        fault(e, words, "order diff", 2, 10);
        fault(e, words, "order diff,", 2, 11);
        fault(e, words, "order diff,  ", 2, 13);
        fault(e, words, "legs", 2, 4);
        fault(e, words, "legs 4", 2, 6);
        fault(e, words, "redo;redo", 5, 5);
    }

    private static void words(Edges e) {
        String words = "3 a WORD that is none of those that may stand there";
        fault(e, words, "chess;", 3, 0);
        fault(e, words, "leg 4;", 3, 0);
        fault(e, words, "legss 4;", 3, 0);
        fault(e, words, "football;", 3, 0);
        fault(e, words, "diff;", 3, 0);
        fault(e, words, "sport legs;", 3, 6);
        fault(e, words, "sport diff;", 3, 6);
        fault(e, words, "order legs;", 3, 6);
        fault(e, words, "order tennis;", 3, 6);
        fault(e, words, "redo;chess;", 3, 5);
        // The end of a word, or its middle, is another word.
        fault(e, words, "port tennis;", 3, 0);
        fault(e, words, "edo;", 3, 0);
        fault(e, words, "oints 3 1 0;", 3, 0);
        fault(e, words, "sport ball;", 3, 6);
        fault(e, words, "sport nis;", 3, 6);
        fault(e, words, "order ots;", 3, 6);
        fault(e, words, "order f;", 3, 6);
        // The text is full in the midst of a word, or of what would be one.
        e.edge(4, words, "398* sign 32 | sign 108 | sign 101 = 400 | competition = -13 | fault = 398");
        e.edge(4, words, "399* sign 32 | sign 115 = 400 | competition = -13 | fault = 399");
        // A longer text was there before: of what it had behind the end nothing is read.
        e.edge(4, words, "rules legs 4; chess; = -13 | rules legs = -12 | fault = 4 | rules leg = -13 | fault = 0 | rules legs 4;  = 0");
        fault(e, "4 a NUMBER out of its bounds", "legs 5;", 4, 5);
        fault(e, "4 a NUMBER out of its bounds", "redo;  legs 0;", 4, 12);
    }

    private static void toldBefore(Edges e) {
        String words = "5 a statement told before (at its WORD), a KEY told before in it";
        String[] all = {"sport tennis;", "points 3 1 0;", "order diff;", "redo;", "legs 1;", "every 1;", "rest 1;", "field 1;",
            "subs 1;", "target 2;", "walkover 1;", "cards 1;", "red 1;", "seed 1;"};
        for (String statement : all) {
            fault(e, words, statement + statement, 5, statement.length());
            fault(e, words, statement + " " + statement.replaceAll("[^a-z].*", ""), 5, statement.length() + 1);
        }
        right(e, words, String.join("", all));
        fault(e, words, String.join("", all) + "red 1;", 5, String.join("", all).length());
        // Told again with another fault in it, its WORD comes first.
        fault(e, words, "legs 1;legs 9;", 5, 7);
    }

    private static void theLeast(Edges e) {
        String words = "At one TOKEN the least.";
        fault(e, words, "legs abcdefghijklm;", 1, 5);
        fault(e, words, "sport 0000;", 1, 6);
        fault(e, words, "order diff 0000;", 1, 11);
        fault(e, words, "legs chess;", 2, 5);
        fault(e, words, "redo;legs redo;", 2, 10);
        fault(e, words, "redo redo;", 2, 5);
        fault(e, words, "order diff diff;", 2, 11);
        fault(e, words, "sport 99;", 2, 6);
    }

    private static void rules(Edges e) {
        e.edge(6, "UNKNOWN; OUTSIDE (0 to 22).", """
            rule 0 0 = UNKNOWN | competition | rule 0 0 = 0 | rule 1 0 = UNKNOWN | rule -1 0 = UNKNOWN | rule MIN 0 = UNKNOWN
            rule MAX 0 = UNKNOWN | rule 0 -1 = OUTSIDE | rule 0 22 = NONE | rule 0 23 = OUTSIDE | rule 0 MIN = OUTSIDE
            rule 0 MAX = OUTSIDE | rule 1 23 = UNKNOWN | rule -1 -1 = UNKNOWN
            """);
        e.edge(6, "16 + i KEY i of order", """
            rules order fair,head; = 0 | rule 0 4 = 2 | rule 0 16 = 5 | rule 0 17 = 4 | rule 0 18 = NONE | rule 0 22 = NONE
            """);
    }
}
