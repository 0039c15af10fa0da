/** The edges that the document's head and its Terms name, a method for each sentence. */
public final class TermsEdgeTest {
    private static final int L = Bench.L;
    private static final Due due = new Due("TermsEdgeTest");

    public static void main(String[] args) {
        findingsAreBelow();
        findingsInTheirOrder();
        findingsChangeNothing();
        samplesOfAPass();
        turnsFromOneOn();
        turnsBesideLost();
        turnsByTheSign();
        mostTurns();
        alignedByUpToD();
        alignedByFourPlaces();
        alignedByTheLeastQuotient();
        alignedNearestToNought();
        alignedBelowNoughtOfTwo();
        layersAtMostEight();
        marksAndSheetsAtFirst();
        due.end();
    }

    private static Bench with(int... samples) {
        return Bench.with(due, samples);
    }

    private static void refused(long finding, String call, Object... args) {
        Bench.refused(due, finding, call, args);
    }

    private static void findingsAreBelow() {
        due.part("FINDINGS are answers below -99999: -100001 BEYOND .. -100007 LOST");
        Bench x = with(-10000, L);
        for (int place = 0; place < 8; place++) {
            x.does("layer", 0, 100, 0);
        }
        x.sheet(0, 8, 0).sheet(1, 16, 0);
        x.due(0, "count", 3);
        x.due(-10000, "sample", 0, 0).due(-10000, "out", 0, 0).due(0, "count", 3);
        x.due(-100001, "sample", 0, 2).due(-100002, "write", 3, 0, 0).due(-100003, "sheet", 0, 8, -1);
        x.due(-100004, "copy", 0, 0, 1, 0, 1).due(-100005, "layer", 0, 0, 0).due(-100006, "turn", 0, 0);
        x.due(-100007, "sample", 0, 1).due(7, "count", 3);
    }

    private static void findingsInTheirOrder() {
        due.part("Each act tells its findings in the order in which they are asked");
        refused(Bench.BEYOND, "turn", 4, -1);
        refused(Bench.BEYOND, "sheet", 4, 8, -1);
        refused(Bench.BEYOND, "sheet", 0, 9, -1);
        refused(Bench.BEYOND, "write", 4, -1, 0);
        refused(Bench.MISSING, "write", 3, -1, 0);
        refused(Bench.BEYOND, "copy", 3, 0, 4, 0, 0);
        refused(Bench.BEYOND, "copy", -1, 0, 3, 0, 0);
        refused(Bench.MISSING, "copy", 3, -1, 0, 0, 0);
        refused(Bench.MISSING, "copy", 0, 0, 3, 0, -1);
        refused(Bench.KIND, "copy", 0, -1, 2, 0, 9);
        refused(Bench.BEYOND, "lay", 4, 3);
        refused(Bench.BEYOND, "as", 0, 7);
        refused(Bench.BEYOND, "as", 3, 5);
        refused(Bench.BEYOND, "align", 2, 2, 10);
        refused(Bench.BEYOND, "seam", 2, 2, 1, 0);
        Bench full = with();
        for (int place = 0; place < 8; place++) {
            full.does("layer", 0, 100, 0);
        }
        full.due(Bench.BEYOND, "layer", 7, 0, 0).due(Bench.BEYOND, "layer", 0, 401, 0).due(Bench.FULL, "layer", 0, 400, 0);
    }

    private static void findingsChangeNothing() {
        due.part("an act that answers a finding changes nothing");
        refused(Bench.BEYOND, "pass", 0, 121);
        refused(Bench.BEYOND, "put", 0, 0, 10001);
        refused(Bench.BEYOND, "lose", 0, 5, 2);
        refused(Bench.LOST, "sample", 0, 1);
        refused(Bench.NONE, "turn", 0, 2);
        refused(Bench.SIZE, "sheet", 0, 0, -1);
        refused(Bench.BEYOND, "sheet", 0, 0, 121);
        refused(Bench.BEYOND, "write", 0, 3, 1);
        refused(Bench.BEYOND, "copy", 0, 2, 0, 0, 2);
        refused(Bench.MISSING, "lay", 0, 3);
        refused(Bench.BEYOND, "layer", 0, -401, 0);
        refused(Bench.BEYOND, "turnOn", 3, true);
        refused(Bench.BEYOND, "move", 0, 3);
        refused(Bench.BEYOND, "drop", 3);
        refused(Bench.KIND, "as", 0, 1);
        refused(Bench.BEYOND, "bake", 0, 4);
        refused(Bench.BEYOND, "join", 0, 1, 7, 0);
        refused(Bench.BEYOND, "mark", 0, 0, 6);
        refused(Bench.NONE, "moment", 1);
        refused(Bench.BEYOND, "count", 4);
        Bench none = with();
        none.due(0, "undo").due(Bench.NONE, "undo").due(Bench.NONE, "undo").due(2, "count", 3);
        none.does("pass", 0, 3).due(0, "undo");
    }

    private static void samplesOfAPass() {
        due.part("PASSES 0 to 3 are rows of up to 120 SAMPLES (-10000 to 10000), of which some may be LOST");
        for (int p = 0; p < 4; p++) {
            Bench x = with();
            x.due(0, "pass", p, 120).due(120, "about", p, 0).due(0, "sample", p, 119).due(Bench.BEYOND, "sample", p, 120);
            x.due(0, "put", p, 119, -10000).due(0, "put", p, 0, 10000);
            x.due(120, "lose", p, 0, 120).due(120, "about", p, 1).due(Bench.LOST, "sample", p, 119);
        }
    }

    private static void turnsFromOneOn() {
        due.part("A ROW's TURNS: its places i from 1 on");
        with().due(0, "about", 0, 2);
        with(0).due(0, "about", 0, 2);
        with(5, 5).due(0, "about", 0, 2);
        with(-1, 0).due(1, "about", 0, 2).due(1, "turn", 0, 0);
        with(-1).due(0, "about", 0, 2);
        with(0, 0, -7).due(0, "about", 0, 2);
    }

    private static void turnsBesideLost() {
        due.part("TURNS: neither being LOST");
        with(L, 1).due(0, "about", 0, 2);
        with(-1, L).due(0, "about", 0, 2);
        with(-1, L, 1).due(0, "about", 0, 2);
        with(L, -1, 1, L).due(1, "about", 0, 2).due(2, "turn", 0, 0);
    }

    private static void turnsByTheSign() {
        due.part("TURNS: the sample ahead is below 0 and that at i is not");
        with(0, 0).due(0, "about", 0, 2);
        with(0, 1).due(0, "about", 0, 2);
        with(-1, -1).due(0, "about", 0, 2);
        with(1, -1).due(0, "about", 0, 2);
        with(-10000, 10000, -1, 0).due(2, "about", 0, 2);
    }

    private static void mostTurns() {
        due.part("TURNS: as many as a full pass can have");
        Bench x = with();
        x.does("pass", 0, 120);
        for (int i = 0; i < 120; i += 2) {
            x.does("put", 0, i, -1);
        }
        x.due(60, "about", 0, 2).due(119, "turn", 0, 59).due(Bench.NONE, "turn", 0, 60);
    }

    private static void alignedByUpToD() {
        due.part("ALIGNED by D (0 to 9): of shifts d from -D to D");
        Bench x = with(0, 0, 0, 0, 0, 0, 0, 0, 0, 7, 20, 3, 40);
        x.row(1, 7, 20, 3, 40);
        // A shift of -9 makes them alike at four places.
        x.due(-9, "align", 0, 1, 9).due(9, "align", 1, 0, 9);
        x.due(0, "differ", 0, 1, -9, false).due(4, "differ", 0, 1, -9, true);
        // Just outside D it is not found: -7 is the least that is left, with 51 by 4.
        x.due(74, "differ", 0, 1, -8, false).due(51, "differ", 0, 1, -7, false).due(63, "differ", 0, 1, -6, false);
        x.due(-7, "align", 0, 1, 8).due(7, "align", 1, 0, 8);
        x.due(0, "align", 0, 1, 0).due(0, "align", 1, 0, 0);
        // Alike by -10 alone, which is not asked; by -9 they are alike at three places of four.
        Bench far = with(0, 0, 0, 0, 0, 0, 0, 0, 0, 0, 5, 5, 5, 5);
        far.row(1, 5, 5, 5, 5);
        far.due(5, "differ", 0, 1, -9, false).due(-9, "align", 0, 1, 9);
        // From 13 on no shift that is asked makes any of them alike.
        far.row(0, 0, 0, 0, 0, 0, 0, 0, 0, 0, 0, 0, 0, 0, 5, 5, 5, 5);
        far.due(0, "align", 0, 1, 9).due(0, "align", 1, 0, 9);
    }

    private static void alignedByFourPlaces() {
        due.part("ALIGNED: for which there are 4 places i at least");
        with(1, 2, 3).due(Bench.NONE, "align", 0, 0, 9);
        with(1, 2, 3, 4).due(0, "align", 0, 0, 9);
        with(1, 2, 3, L).due(Bench.NONE, "align", 0, 0, 9);
        with(1, 2, 3, L, 4).due(0, "align", 0, 0, 9);
        // By 0 three places alone, by 1 four: the pass has its LOST one elsewhere.
        Bench x = with(1, 2, 3, 4);
        x.row(1, 1, L, 3, 4, 5);
        x.due(3, "differ", 0, 1, 0, true).due(3, "differ", 0, 1, 1, true).due(Bench.NONE, "align", 0, 1, 9);
        x.row(1, L, 50, 60, 70, 80);
        x.due(4, "differ", 0, 1, 1, true).due(1, "align", 0, 1, 9).due(Bench.NONE, "align", 0, 1, 0);
        x.row(0, L, 1, 2, 3, 4).row(1, 50, 60, 70, 80);
        x.due(-1, "align", 0, 1, 1).due(Bench.NONE, "align", 0, 1, 0);
    }

    private static void alignedByTheLeastQuotient() {
        due.part("ALIGNED: that for which the sum .. by their number, is least");
        // By 0: 5 by 5. By 1: 4 by 4, and then 3 by 4.
        Bench x = with(1, 1, 1, 1, 1);
        x.row(1, 0, 0, 0, 0, 0);
        x.due(5, "differ", 0, 1, 0, false).due(4, "differ", 0, 1, 1, false).due(0, "align", 0, 1, 1);
        x.row(1, 0, 0, 0, 0, 1);
        x.due(4, "differ", 0, 1, 0, false).due(3, "differ", 0, 1, 1, false).due(1, "align", 0, 1, 1);
        // The greatest sums: 120 places that differ by 20000.
        Bench loud = with();
        loud.does("pass", 0, 120).does("pass", 1, 120);
        for (int i = 0; i < 120; i++) {
            loud.does("put", 0, i, 10000).does("put", 1, i, -10000);
        }
        loud.due(2400000, "differ", 0, 1, 0, false).due(0, "align", 0, 1, 9);
        loud.does("put", 1, 119, -9999).due(9, "align", 0, 1, 9);
        loud.does("put", 1, 119, -10000).does("put", 1, 0, -9999).due(-9, "align", 0, 1, 9);
    }

    private static void alignedNearestToNought() {
        due.part("ALIGNED: of several the one nearest to 0");
        with(0, 0, 0, 0, 0, 0, 0, 0).due(0, "align", 0, 0, 9);
        Bench x = with(5, 0, 5, 0, 5, 0, 5, 0, 5);
        x.due(0, "align", 0, 0, 9);
        x.row(1, 0, 5, 0, 5, 0, 5, 0, 5, 0);
        x.due(4, "differ", 0, 1, -5, true).due(0, "differ", 0, 1, -5, false).due(-1, "align", 0, 1, 9);
        // Alike by 2 and by -3, nothing nearer.
        Bench y = with(L, L, L, 1, 2, 3, 4);
        y.row(1, 1, 2, 3, 4, 0, 1, 2, 3, 4);
        y.due(0, "differ", 0, 1, 2, false).due(0, "differ", 0, 1, -3, false);
        y.due(2, "align", 0, 1, 9).due(2, "align", 0, 1, 2);
    }

    private static void alignedBelowNoughtOfTwo() {
        due.part("ALIGNED: of two such the one below 0");
        Bench x = with(L, L, 1, 2, 3, 4);
        x.row(1, 1, 2, 3, 4, 1, 2, 3, 4);
        x.due(0, "differ", 0, 1, -2, false).due(0, "differ", 0, 1, 2, false);
        x.due(-2, "align", 0, 1, 9).due(-2, "align", 0, 1, 2);
        x.does("lose", 1, 0, 1).due(2, "align", 0, 1, 9);
    }

    private static void layersAtMostEight() {
        due.part("LAYERS 0, 1, .. (at most 8) are in an order, each ON (at first) or not");
        Bench x = with(1);
        for (int place = 0; place < 8; place++) {
            x.due(place, "layer", 0, 200, 0).due(place + 1, "count", 1).due(1, "told", place, 3);
        }
        x.due(256, "out", 0, 0).due(Bench.FULL, "layer", 0, 200, 0).due(256, "out", 0, 0);
        for (int place = 0; place < 8; place++) {
            x.due(1, "turnOn", place, false);
        }
        x.due(1, "out", 0, 0).due(Bench.FULL, "layer", 0, 200, 0).due(8, "count", 0).due(0, "count", 1);
    }

    private static void marksAndSheetsAtFirst() {
        due.part("MARKS 0 to 5 are .. nowhere (at first); SHEETS 0 to 3 are .. MISSING (all, at first)");
        Bench x = with(1);
        for (int mark = 0; mark < 6; mark++) {
            x.due(Bench.NONE, "moment", mark);
        }
        for (int s = 0; s < 4; s++) {
            x.due(Bench.MISSING, "lay", 0, s).due(Bench.MISSING, "write", s, 0, 0).due(Bench.MISSING, "copy", s, 0, s, 0, 0);
        }
        x.due(Bench.BEYOND, "moment", 6).due(Bench.BEYOND, "lay", 0, 4);
    }
}
