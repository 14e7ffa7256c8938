/** Promises 7 to 11 and 44: clubs, persons, spans, officials, TODAY, and how many there are. */
public final class ThingsTest {
    private static final Check CHECK = new Check("ThingsTest");
    private static final int LOW = Integer.MIN_VALUE;
    private static final int HIGH = Integer.MAX_VALUE;

    public static void main(String[] args) {
        clubs();
        persons();
        spans();
        manySpans();
        officials();
        days();
        counts();
        CHECK.end();
    }

    private static void clubs() {
        SportsHouse x = new SportsHouse();
        for (int bad : new int[] {LOW, -1, 12, HIGH}) {
            CHECK.due("club(" + bad + ", 0)", x.club(bad, 0), SportsHouse.OUTSIDE);
        }
        for (int bad : new int[] {LOW, -1, 8, HIGH}) {
            CHECK.due("club(0, " + bad + ")", x.club(0, bad), SportsHouse.OUTSIDE);
        }
        for (int k = 0; k < 12; k++) {
            CHECK.due("club " + k, x.club(11 - k, k % 8), k);
        }
        CHECK.due("the 13th", x.club(0, 0), SportsHouse.ROOM);
        CHECK.due("OUTSIDE comes before ROOM", x.club(12, 0), SportsHouse.OUTSIDE);
        CHECK.due("count(0)", x.count(0), 12);
    }

    private static void persons() {
        SportsHouse x = new SportsHouse();
        for (int k = 0; k < 200; k++) {
            CHECK.due("person " + k, x.person(), k);
        }
        CHECK.due("the 201st", x.person(), SportsHouse.ROOM);
        CHECK.due("count(1)", x.count(1), 200);
    }

    private static void spans() {
        SportsHouse x = new SportsHouse();
        Setup.clubs(x, 2);
        x.person();
        x.person();
        CHECK.due("no such person", x.register(2, 0, 0, 9), SportsHouse.UNKNOWN);
        CHECK.due("no such club", x.register(0, 2, 0, 9), SportsHouse.UNKNOWN);
        CHECK.due("below 0", x.register(-1, -1, 0, 9), SportsHouse.UNKNOWN);
        CHECK.due("UNKNOWN comes before OUTSIDE", x.register(0, 2, 9, 0), SportsHouse.UNKNOWN);
        CHECK.due("from below 0", x.register(0, 0, -1, 9), SportsHouse.OUTSIDE);
        CHECK.due("to beyond 999", x.register(0, 0, 0, 1000), SportsHouse.OUTSIDE);
        CHECK.due("to before from", x.register(0, 0, 9, 8), SportsHouse.OUTSIDE);
        CHECK.due("days 10 to 20", x.register(0, 0, 10, 20), 1);
        CHECK.due("up to its first day", x.register(0, 1, 0, 10), SportsHouse.STATE);
        CHECK.due("from its last day on", x.register(0, 0, 20, 30), SportsHouse.STATE);
        CHECK.due("around it", x.register(0, 1, 9, 21), SportsHouse.STATE);
        CHECK.due("within it", x.register(0, 1, 15, 15), SportsHouse.STATE);
        CHECK.due("just before", x.register(0, 1, 0, 9), 2);
        CHECK.due("just behind", x.register(0, 0, 21, 999), 3);
        CHECK.due("another person", x.register(1, 1, 0, 999), 4);
        CHECK.due("one day alone is taken", x.register(0, 1, 0, 0), SportsHouse.STATE);
        CHECK.due("count(2)", x.count(2), 4);
    }

    private static void manySpans() {
        SportsHouse x = new SportsHouse();
        x.club(0, 0);
        x.person();
        x.person();
        for (int k = 0; k < 300; k++) {
            CHECK.due("span " + k, x.register(k % 2, 0, k, k), k + 1);
        }
        CHECK.due("the 301st", x.register(0, 0, 500, 500), SportsHouse.ROOM);
        CHECK.due("STATE comes before ROOM", x.register(0, 0, 298, 500), SportsHouse.STATE);
        CHECK.due("count(2)", x.count(2), 300);
    }

    private static void officials() {
        SportsHouse x = new SportsHouse();
        for (int bad : new int[] {LOW, -1, 12, HIGH}) {
            CHECK.due("official(" + bad + ", 0)", x.official(bad, 0), SportsHouse.OUTSIDE);
        }
        for (int bad : new int[] {LOW, -1, 8, HIGH}) {
            CHECK.due("official(0, " + bad + ")", x.official(0, bad), SportsHouse.OUTSIDE);
        }
        for (int k = 0; k < 8; k++) {
            CHECK.due("official " + k, x.official(11, k), k);
        }
        CHECK.due("the ninth", x.official(0, 0), SportsHouse.ROOM);
        CHECK.due("OUTSIDE comes before ROOM", x.official(0, 8), SportsHouse.OUTSIDE);
        CHECK.due("count(3)", x.count(3), 8);
    }

    private static void days() {
        SportsHouse x = new SportsHouse();
        CHECK.due("day(0), which it is", x.day(0), SportsHouse.OUTSIDE);
        CHECK.due("day(-1)", x.day(-1), SportsHouse.OUTSIDE);
        CHECK.due("day(1000)", x.day(1000), SportsHouse.OUTSIDE);
        CHECK.due("day(5)", x.day(5), 0);
        CHECK.due("day(5) again", x.day(5), SportsHouse.OUTSIDE);
        CHECK.due("day(4)", x.day(4), SportsHouse.OUTSIDE);
        CHECK.due("day(6)", x.day(6), 5);
        CHECK.due("day(999)", x.day(999), 6);
        CHECK.due("none behind it", x.day(HIGH), SportsHouse.OUTSIDE);
        CHECK.due("count(7)", x.count(7), 999);
    }

    private static void counts() {
        SportsHouse x = Setup.begun("field1;", 2);
        x.official(0, 0);
        x.day(3);
        x.event(0, 1, 0, 0, 0);
        x.event(0, 1, 0, 0, 0);
        x.event(0, 0, 0, 0, 0);
        x.review(0, 1, SportsHouse.NONE, 0, 0, 0);
        int[] want = {2, 4, 4, 1, 1, 1, 3, 3};
        for (int what = 0; what <= 7; what++) {
            CHECK.due("count(" + what + ")", x.count(what), want[what]);
        }
        CHECK.due("rows that are left", x.rows(0, 0), 2);
        CHECK.due("count(-1)", x.count(-1), SportsHouse.OUTSIDE);
        CHECK.due("count(8)", x.count(8), SportsHouse.OUTSIDE);
    }
}
