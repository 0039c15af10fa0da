/** The edges that promises 27 and 28 and the term THE MOMENT name, a method for each sentence. */
public final class MarksEdgeTest {
    private static final int L = Bench.L;
    private static final int MIN = Bench.MIN;
    private static final int MAX = Bench.MAX;
    private static final long BEYOND = Bench.BEYOND;
    private static final long NONE = Bench.NONE;
    private static final long GONE = Bench.LOST;
    private static final Due due = new Due("MarksEdgeTest");

    public static void main(String[] args) {
        markAtTheEnds();
        markNowhere();
        markBeyond();
        momentBeyond();
        momentNowhere();
        momentWithoutSuchASample();
        momentGone();
        momentOutsideTheTurns();
        momentBetweenTurns();
        momentAtTheLastTurn();
        momentNotInTheNewRow();
        momentOfFewerThanTwoTurns();
        momentCut();
        momentByOthers();
        momentByLayersInTheirOrder();
        due.end();
    }

    private static Bench with(int... samples) {
        return Bench.with(due, samples);
    }

    private static void refused(long finding, String call, Object... args) {
        Bench.refused(due, finding, call, args);
    }

    /** THE MOMENTS of marks at each sample of pass 0. */
    private static void moments(Bench x, long... want) {
        for (int i = 0; i < want.length; i++) {
            x.due(1, "mark", 2, 0, i).due(want[i], "moment", 2);
        }
        x.due(BEYOND, "mark", 2, 0, want.length);
    }

    private static void markAtTheEnds() {
        due.part("Promise 27: A mark is at a sample of a pass: 1");
        Bench x = new Bench(due).does("pass", 3, 120).does("pass", 0, 1).does("lose", 0, 0, 1);
        x.due(1, "mark", 0, 3, 0).due(1, "mark", 5, 3, 119).due(1, "mark", 1, 0, 0);
        x.due(0, "moment", 0).due(119, "moment", 5).due(0, "moment", 1).due(3, "count", 2);
        x.due(1, "mark", 5, 3, 119).due(119, "moment", 5).due(1, "mark", 5, 0, 0).due(0, "moment", 5).due(3, "count", 2);
        for (int mark = 0; mark < 6; mark++) {
            x.due(1, "mark", mark, 3, 100 + mark);
        }
        for (int mark = 0; mark < 6; mark++) {
            x.due(100 + mark, "moment", mark);
        }
        x.due(6, "count", 2);
    }

    private static void markNowhere() {
        due.part("Promise 27: i -1: nowhere: 1");
        Bench x = with(1, 2);
        x.due(1, "mark", 0, 0, -1).due(NONE, "moment", 0).due(0, "count", 2);
        x.due(1, "mark", 0, 0, 1).due(1, "count", 2).due(1, "mark", 0, 0, -1).due(NONE, "moment", 0).due(0, "count", 2);
        // Of any of the four passes, also of one without samples.
        x.due(1, "mark", 0, 0, 1).due(1, "mark", 0, 3, -1).due(NONE, "moment", 0).due(0, "count", 2);
        x.due(1, "mark", 5, 2, -1).due(NONE, "moment", 5);
    }

    private static void markBeyond() {
        due.part("Promise 27: BEYOND: no such mark, pass, or sample");
        for (int mark : new int[] {-1, 6, MIN, MAX}) {
            refused(BEYOND, "mark", mark, 0, 0);
            refused(BEYOND, "mark", mark, 0, -1);
        }
        for (int p : new int[] {-1, 4, MIN, MAX}) {
            refused(BEYOND, "mark", 0, p, 0);
            refused(BEYOND, "mark", 0, p, -1);
        }
        for (int i : new int[] {-2, 6, MIN, MAX}) {
            refused(BEYOND, "mark", 0, 0, i);
        }
        refused(BEYOND, "mark", 0, 2, 0);
        refused(BEYOND, "mark", 0, 3, 1);
    }

    private static void momentBeyond() {
        due.part("Promise 28: BEYOND: no such mark");
        for (int mark : new int[] {-1, 6, MIN, MAX}) {
            refused(BEYOND, "moment", mark);
        }
    }

    private static void momentNowhere() {
        due.part("Promise 28: NONE: it is nowhere");
        refused(NONE, "moment", 1);
        refused(NONE, "moment", 3);
    }

    private static void momentWithoutSuchASample() {
        due.part("Promise 28: NONE: its pass has no such sample (any more)");
        Bench x = with(1, 2, 3).due(1, "mark", 0, 0, 2).due(2, "moment", 0);
        x.does("pass", 0, 2).due(NONE, "moment", 0).does("pass", 0, 3).due(2, "moment", 0).does("pass", 0, 0).due(NONE, "moment", 0);
        x.does("undo").due(2, "moment", 0).due(1, "count", 2);
        // Whatever the layers would make of it: the pass is asked, and it is NONE ahead of GONE.
        Bench cut = with(1, 2, 3).due(1, "mark", 0, 0, 2).does("layer", 5, 2, 1).due(GONE, "moment", 0);
        cut.does("pass", 0, 2).due(NONE, "moment", 0);
        // By each act that makes a pass shorter.
        with(1, 2, 3).due(1, "mark", 0, 0, 1).does("sheet", 0, 8, 1).does("lay", 0, 0).due(NONE, "moment", 0);
        with(1, 2, 3).due(1, "mark", 0, 0, 1).does("bake", 1, 0).due(NONE, "moment", 0);
        with(1, 2, 3).due(1, "mark", 0, 0, 1).does("join", 0, 1, 1, 0).due(NONE, "moment", 0);
        // A LOST sample is a sample.
        with(1, 2, 3).due(1, "mark", 0, 0, 1).does("lose", 0, 1, 1).due(1, "moment", 0);
    }

    private static void momentGone() {
        due.part("Promise 28: LOST: it is GONE");
        Bench x = with(1, 2).due(1, "mark", 0, 0, 0).does("layer", 5, 0, 1).due(0, "count", 3).due(GONE, "moment", 0).due(1, "count", 3);
        x.does("turnOn", 0, false).due(0, "moment", 0).due(1, "count", 3);
        // What is GONE stays so, whatever comes behind.
        Bench y = with(-1, 2, -3, 4, -5, 6).due(1, "mark", 0, 0, 0).does("layer", 5, 0, 1).does("layer", 4, 30, 0);
        y.due(GONE, "moment", 0).does("layer", 5, 0, 1).due(GONE, "moment", 0).does("layer", 6, 5, 0).due(GONE, "moment", 0);
    }

    private static void momentOutsideTheTurns() {
        due.part("WARP: a place ahead of the first or behind the last TURN is GONE");
        // TURNS 2 and 4 of 7 samples.
        moments(with(-1, -1, 1, -1, 1, 1, -1).does("layer", 4, 2, 0), GONE, GONE, 0, 1, 2, GONE, GONE);
        moments(with(-1, 1, -1, 1).does("layer", 4, 1, 0), GONE, 0, 0, 1);
    }

    private static void momentBetweenTurns() {
        due.part("WARP: k times a and (place - T(k)) times a by (T(k + 1) - T(k)), cut");
        // TURNS 1, 4, 6.
        moments(with(-1, 1, 1, -1, 1, -1, 1).does("layer", 4, 1, 0), GONE, 0, 0, 0, 1, 1, 2);
        moments(with(-1, 1, 1, -1, 1, -1, 1).does("layer", 4, 2, 0), GONE, 0, 0, 1, 2, 3, 4);
        moments(with(-1, 1, 1, -1, 1, -1, 1).does("layer", 4, 30, 0), GONE, 0, 10, 20, 30, 45, 60);
        moments(with(-1, 1, 1, -1, 1, -1, 1).does("layer", 4, 29, 0), GONE, 0, 9, 19, 29, 43, 58);
    }

    private static void momentAtTheLastTurn() {
        due.part("WARP: at the last TURN: k times a");
        with(-1, 1, -1, 1).does("layer", 4, 30, 0).due(1, "mark", 0, 0, 3).due(30, "moment", 0).due(31, "size", 0);
        with(-1, 1, -1, 1, 5).does("layer", 4, 1, 0).due(1, "mark", 0, 0, 3).due(1, "moment", 0).due(2, "size", 0);
        Bench wave = wave().does("layer", 4, 2, 0);
        wave.due(1, "mark", 0, 0, 119).due(118, "moment", 0).due(119, "size", 0);
    }

    /** 120 samples, -1 0 -1 0 ..: a TURN at each odd place. */
    private static Bench wave() {
        Bench x = new Bench(due).does("pass", 0, 120);
        for (int i = 0; i < 120; i += 2) {
            x.does("put", 0, i, -1);
        }
        return x;
    }

    private static void momentNotInTheNewRow() {
        due.part("WARP: GONE if that is not in the new row");
        // TURN k is at 2 k + 1; by 30 TURN 4 would be at 120, which is one too late.
        Bench x = wave().does("layer", 4, 30, 0);
        x.due(1, "mark", 0, 0, 7).due(90, "moment", 0).due(1, "mark", 0, 0, 8).due(105, "moment", 0);
        x.due(1, "mark", 0, 0, 9).due(GONE, "moment", 0).due(1, "mark", 0, 0, 119).due(GONE, "moment", 0);
        // By 17 TURN 7 is at 119, the last there is.
        x.does("drop", 0).does("layer", 4, 17, 0);
        x.due(1, "mark", 0, 0, 15).due(119, "moment", 0).due(1, "mark", 0, 0, 16).due(GONE, "moment", 0);
        x.does("drop", 0).does("layer", 4, 3, 0).due(1, "mark", 0, 0, 79).due(117, "moment", 0);
        x.due(1, "mark", 0, 0, 80).due(118, "moment", 0).due(1, "mark", 0, 0, 81).due(GONE, "moment", 0);
    }

    private static void momentOfFewerThanTwoTurns() {
        due.part("WARP: a row with fewer than two TURNS changes nothing");
        moments(with(1, 2, 3).does("layer", 4, 5, 0), 0, 1, 2);
        moments(with(-1, 2, 3).does("layer", 4, 5, 0), 0, 1, 2);
        moments(with(-1, 2, -3, 4).does("layer", 4, 5, 0), GONE, 0, 2, 5);
        moments(with(-1, 2, L, 4).does("layer", 4, 5, 0), 0, 1, 2, 3);
    }

    private static void momentCut() {
        due.part("CUT: GONE if it was cut, else less by what was cut ahead of it");
        moments(with(1, 2, 3, 4, 5).does("layer", 5, 1, 2), 0, GONE, GONE, 1, 2);
        moments(with(1, 2, 3).does("layer", 5, 0, 1), GONE, 0, 1);
        moments(with(1, 2, 3).does("layer", 5, 2, 1), 0, 1, GONE);
        moments(with(1, 2, 3).does("layer", 5, 2, 120), 0, 1, GONE);
        moments(with(1, 2, 3).does("layer", 5, 3, 120), 0, 1, 2);
        moments(with(1, 2, 3).does("layer", 5, 0, 120), GONE, GONE, GONE);
        moments(with(1, L, 3).does("layer", 5, 0, 1), GONE, 0, 1);
        Bench full = new Bench(due).does("pass", 0, 120).does("layer", 5, 0, 119);
        full.due(1, "mark", 0, 0, 119).due(0, "moment", 0).due(1, "mark", 0, 0, 118).due(GONE, "moment", 0);
    }

    private static void momentByOthers() {
        due.part("THE MOMENT: Others change nothing");
        for (int kind : new int[] {0, 1, 2, 3, 6}) {
            moments(with(-1, 900, -1, L, 1, -1, 5).does("layer", kind, 1, 1), 0, 1, 2, 3, 4, 5, 6);
        }
    }

    private static void momentByLayersInTheirOrder() {
        due.part("THE MOMENT: as LAYERS that are ON change it, each by the row that comes to it");
        Bench x = with(-1, 1, -1, 1, -1, 1).does("layer", 5, 0, 2).does("layer", 4, 2, 0);
        // TURNS 1, 3 of what is left.
        moments(x, GONE, GONE, GONE, 0, 1, 2);
        x.does("move", 0, 1);
        // First 0 to 4 by TURNS 1, 3, 5, then less by 2.
        moments(x, GONE, GONE, GONE, 0, 1, 2);
        x.does("turnOn", 0, false);
        moments(x, GONE, GONE, 0, 1, 2, 3);
        x.does("turnOn", 1, false);
        moments(x, 0, 1, 2, 3, 4, 5);
        // MEND and GAIN change where the TURNS are.
        moments(with(1, -1, 1, -1, 1, -1).does("layer", 0, -100, 0).does("layer", 4, 2, 0), GONE, 0, 1, 2, 3, 4);
        moments(with(-1, 1, -1, 1).does("layer", 0, 0, 0).does("layer", 4, 2, 0), 0, 1, 2, 3);
    }
}
