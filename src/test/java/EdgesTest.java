import java.io.IOException;

/** For each sentence of the document that names a boundary case, a script of calls with the answers that are due. */
public final class EdgesTest {
    public static void main(String[] args) throws IOException {
        Check check = new Check("EdgesTest");
        Edges edges = new Edges(check);
        EdgesText.tell(edges);
        EdgesThings.tell(edges);
        EdgesFixtures.tell(edges);
        EdgesSheets.tell(edges);
        EdgesPlay.tell(edges);
        EdgesStandings.tell(edges);
        EdgesTitle.tell(edges);
        EdgesDraw.tell(edges);
        EdgesOfficials.tell(edges);
        edges.nothingIsForgotten();
        roomForRows(check);
        check.end();
    }

    /** 3000 rows need more calls than an object is promised for, so this is the class's own bound, and needs no script. */
    private static void roomForRows(Check check) {
        SportsHouse x = Setup.begun("field1;", 1);
        for (int n = 1; n <= 3000; n++) {
            check.due("row " + n, x.event(0, 1, 0, 0, n), n);
        }
        check.due("row 3001", x.event(0, 1, 0, 0, 0), SportsHouse.ROOM);
        check.due("ROOM comes behind the LAW", x.event(0, 1, 0, 1, 0), -14);
        check.due("no goal was scored by it", x.match(0, 6), 3000);
        check.due("rows of the match", x.rows(0, 0), 3000);
        check.due("the last row", x.row(0, 2999, 3), 3000);
        check.due("rows in all", x.count(6), 3000);
        check.due("taken out", x.review(0, 0, SportsHouse.NONE, 0, 0, 0), 0);
        check.due("taken out ones count, too", x.event(0, 1, 0, 0, 0), SportsHouse.ROOM);
    }
}
