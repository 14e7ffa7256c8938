/** Promises 1 to 6: a new object, the text, its faults, and the rules that it gives. */
public final class TextTest {
    private static final Check CHECK = new Check("TextTest");

    public static void main(String[] args) {
        newObject();
        signing();
        wiping();
        competitions();
        faults();
        bounds();
        rulesThatAreTold();
        CHECK.end();
    }

    private static void newObject() {
        SportsHouse x = new SportsHouse();
        for (int what = 0; what <= 7; what++) {
            CHECK.due("new: count(" + what + ")", x.count(what), 0);
        }
        CHECK.due("new: fault", x.fault(), SportsHouse.NONE);
        CHECK.due("new: moved(0)", x.moved(0), SportsHouse.NONE);
        CHECK.due("new: cut", x.cut(), 0);
        CHECK.due("new: ways", x.ways(), SportsHouse.STATE);
        CHECK.due("new: ball", x.ball(1, true), SportsHouse.STATE);
        CHECK.due("new: rule(0, 0)", x.rule(0, 0), SportsHouse.UNKNOWN);
        CHECK.due("new: match(0, 0)", x.match(0, 0), SportsHouse.UNKNOWN);
        CHECK.due("new: witness(0)", x.witness(0), SportsHouse.UNKNOWN);
        CHECK.due("new: drawn(0)", x.drawn(0), SportsHouse.UNKNOWN);
        CHECK.due("new: wipe", x.wipe(), 0);
    }

    private static void signing() {
        SportsHouse x = new SportsHouse();
        for (int c : new int[] {Integer.MIN_VALUE, -1, 0, 9, 11, 13, 31, 127, 128, 255, 266, Integer.MAX_VALUE}) {
            CHECK.due("sign(" + c + ")", x.sign(c), SportsHouse.OUTSIDE);
        }
        CHECK.due("sign(10)", x.sign(10), 1);
        for (int c = 32; c <= 126; c++) {
            CHECK.due("sign(" + c + ")", x.sign(c), c - 30);
        }
        for (int n = 97; n <= 400; n++) {
            CHECK.due("sign no. " + n, x.sign(' '), n);
        }
        CHECK.due("sign no. 401", x.sign(' '), SportsHouse.ROOM);
        CHECK.due("sign no. 401 outside", x.sign(0), SportsHouse.OUTSIDE);
        CHECK.due("wipe of a full text", x.wipe(), 400);
        CHECK.due("sign behind it", x.sign(' '), 1);
    }

    private static void wiping() {
        SportsHouse x = new SportsHouse();
        x.sign('#');
        x.sign('#');
        CHECK.due("wipe", x.wipe(), 2);
        CHECK.due("wipe again", x.wipe(), 0);
        CHECK.due("competition of a wiped text", x.competition(), 0);
    }

    private static void competitions() {
        SportsHouse x = new SportsHouse();
        CHECK.due("a faulty one", Setup.rules(x, "legs 9;"), -14);
        CHECK.due("its fault", x.fault(), 5);
        CHECK.due("the text is empty behind a fault", x.wipe(), 0);
        CHECK.due("no competition came of it", x.count(4), 0);
        for (int c = 0; c < 4; c++) {
            CHECK.due("competition " + c, Setup.rules(x, "legs " + (c + 1) + ";"), c);
            CHECK.due("no fault any more", x.fault(), SportsHouse.NONE);
            CHECK.due("the text is empty then", x.sign(' '), 1);
            x.wipe();
        }
        CHECK.due("count(4)", x.count(4), 4);
        CHECK.due("rules of competition 3", x.rule(3, 6), 4);
        CHECK.due("the fifth, even of a faulty text", Setup.rules(x, "legs 9;"), SportsHouse.ROOM);
        CHECK.due("ROOM is no fault", x.fault(), SportsHouse.NONE);
        CHECK.due("the text stays", x.wipe(), 7);
        SportsHouse y = new SportsHouse();
        Setup.rules(y, "#");
        CHECK.due("fault at 0", y.fault(), 0);
        for (int c = 0; c < 4; c++) {
            y.competition();
        }
        CHECK.due("ROOM", y.competition(), SportsHouse.ROOM);
        CHECK.due("fault behind ROOM", y.fault(), SportsHouse.NONE);
    }

    private static void fault(String text, int kind, int at) {
        SportsHouse x = new SportsHouse();
        CHECK.due("competition of '" + text + "'", Setup.rules(x, text), kind == 0 ? 0 : -10 - kind);
        CHECK.due("fault of '" + text + "'", x.fault(), at);
    }

    private static void right(String text) {
        fault(text, 0, SportsHouse.NONE);
    }

    private static void faults() {
        right("");
        right(" \n ");
        right("sport football;");
        right("\nlegs\n2\n;\n");
        right("points3 1 0;legs2;redo;");
        right("legs 001;");
        right("order diff,scored,wins,away,head,fair,lots;");
        fault("Sport football;", 1, 0);
        fault("sport Football;", 1, 6);
        fault("legs 2 # ;", 1, 7);
        fault("legs 2; #", 1, 8);
        fault("legs 0001;", 1, 5);
        fault("abcdefghijklm;", 1, 0);
        fault("sport aaaaaaaaaaaaa;", 1, 6);
        fault("legs abcdefghijklm;", 1, 5);
        fault("chess {", 3, 0);
        fault("abcdefghijkl;", 3, 0);
        fault("sport football", 2, 14);
        fault("sport football  ", 2, 16);
        fault("sport", 2, 5);
        fault(";", 2, 0);
        fault(" ,", 2, 1);
        fault("5;", 2, 0);
        fault("legs 2;;", 2, 7);
        fault("sport 3;", 2, 6);
        fault("sport ;", 2, 6);
        fault("redo 1;", 2, 5);
        fault("redo,", 2, 4);
        fault("legs 2 rest 3;", 2, 7);
        fault("legs two;", 2, 5);
        fault("points 3 1;", 2, 10);
        fault("points 3,1,0;", 2, 8);
        fault("order;", 2, 5);
        fault("order diff scored;", 2, 11);
        fault("order diff,;", 2, 11);
        fault("order diff,7;", 2, 11);
        fault("order diff", 2, 10);
        fault("sports football;", 3, 0);
        fault("re;", 3, 0);
        fault("sport chess;", 3, 6);
        fault("sport diff;", 3, 6);
        fault("order diff,goals;", 3, 11);
        fault("order football;", 3, 6);
        fault("football;", 3, 0);
        fault("points 3 4 0;", 4, 9);
        fault("points 3 1 2;", 4, 11);
        fault("points 10 1 0;", 4, 7);
        fault("points 9 10 0;", 4, 9);
        fault("legs 2; legs 3;", 5, 8);
        fault("redo;redo;", 5, 5);
        fault("legs 2;legs", 5, 7);
        fault("order diff,diff;", 5, 11);
        fault("order diff,scored,wins,away,head,fair,lots,fair;", 5, 43);
        fault("order diff;order lots;", 5, 11);
    }

    private static void bounds() {
        String[] words = {"legs", "every", "rest", "field", "subs", "target", "walkover", "cards", "red", "seed"};
        int[] least = {1, 1, 1, 1, 0, 2, 1, 1, 1, 0};
        int[] most = {4, 30, 9, 6, 5, 25, 9, 9, 9, 999};
        for (int k = 0; k < words.length; k++) {
            told(words[k] + " " + least[k] + ";", 6 + k, least[k]);
            told(words[k] + " " + most[k] + ";", 6 + k, most[k]);
            int at = words[k].length() + 1;
            if (least[k] > 0) {
                fault(words[k] + " " + (least[k] - 1) + ";", 4, at);
            }
            // A fourth digit makes the token too long.
            fault(words[k] + " " + (most[k] + 1) + ";", most[k] == 999 ? 1 : 4, at);
        }
    }

    private static void told(String text, int what, int want) {
        SportsHouse x = new SportsHouse();
        Setup.rules(x, text);
        CHECK.due("'" + text + "' rule(0, " + what + ")", x.rule(0, what), want);
    }

    private static void rulesThatAreTold() {
        SportsHouse x = new SportsHouse();
        x.competition();
        int[] first = {0, 3, 1, 0, 2, 0, 1, 7, 1, 2, 2, 3, 3, 3, 1, 0, 0, 1, -1, -1, -1, -1, -1};
        Setup.rules(x, "seed 77;red 9;cards 8;walkover 7;target 25;subs 5;field 6;rest 4;every 30;legs 3;redo;"
            + "order lots,fair,head,away,wins,scored,diff;points 9 8 7;sport tennis;");
        int[] second = {2, 9, 8, 7, 7, 1, 3, 30, 4, 6, 5, 25, 7, 8, 9, 77, 6, 5, 4, 3, 2, 1, 0};
        for (int what = 0; what <= 22; what++) {
            CHECK.due("rule(0, " + what + ")", x.rule(0, what), first[what]);
            CHECK.due("rule(1, " + what + ")", x.rule(1, what), second[what]);
        }
        CHECK.due("rule(0, -1)", x.rule(0, -1), SportsHouse.OUTSIDE);
        CHECK.due("rule(0, 23)", x.rule(0, 23), SportsHouse.OUTSIDE);
        CHECK.due("rule(2, 0)", x.rule(2, 0), SportsHouse.UNKNOWN);
        CHECK.due("rule(-1, 99)", x.rule(-1, 99), SportsHouse.UNKNOWN);
        told("order lots;", 4, 1);
        told("order lots;", 16, 6);
        told("order lots;", 17, SportsHouse.NONE);
        told("sport volleyball;", 0, 1);
        told("sport baseball;", 0, 3);
    }
}
