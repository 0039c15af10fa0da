/** The edges that promises 1 to 7 name, a method for each sentence. */
public final class PassesEdgeTest {
    private static final int L = Bench.L;
    private static final int MIN = Bench.MIN;
    private static final int MAX = Bench.MAX;
    private static final long BEYOND = Bench.BEYOND;
    private static final Due due = new Due("PassesEdgeTest");

    public static void main(String[] args) {
        newPasses();
        newRest();
        passOfNSamples();
        passBeyond();
        putOfALostOne();
        putBeyond();
        loseSome();
        loseBeyond();
        loseBeyondWithoutAny();
        sampleBeyond();
        sampleLost();
        aboutAnEmptyOne();
        aboutAFullOne();
        aboutClicks();
        aboutBeyond();
        turnBeyond();
        turnNone();
        due.end();
    }

    private static Bench with(int... samples) {
        return Bench.with(due, samples);
    }

    private static void refused(long finding, String call, Object... args) {
        Bench.refused(due, finding, call, args);
    }

    /** A call whose first number is a pass is refused for each number that is none. */
    private static void noSuchPass(String call, Object... rest) {
        for (int p : new int[] {-1, 4, MIN, MAX}) {
            Object[] args = new Object[rest.length + 1];
            args[0] = p;
            System.arraycopy(rest, 0, args, 1, rest.length);
            refused(BEYOND, call, args);
        }
    }

    private static void newPasses() {
        due.part("Promise 1: All passes are without samples");
        Bench x = new Bench(due);
        for (int p = 0; p < 4; p++) {
            x.isRow(p).isOutput(p).due(0, "about", p, 1).due(0, "about", p, 2).due(0, "about", p, 3);
            x.due(0, "heard", p, 0).due(0, "heard", p, 1).due(0, "heard", p, 2).due(0, "power", p);
        }
    }

    private static void newRest() {
        due.part("Promise 1: no layers, marks nowhere, sheets MISSING");
        Bench x = new Bench(due);
        x.due(0, "count", 0).due(0, "count", 1).due(0, "count", 2).due(0, "count", 3);
        x.due(BEYOND, "told", 0, 0).due(BEYOND, "drop", 0).due(Bench.NONE, "moment", 0).due(Bench.NONE, "moment", 5);
        x.due(Bench.MISSING, "lay", 0, 0).due(Bench.MISSING, "lay", 0, 3).due(Bench.NONE, "undo");
    }

    private static void passOfNSamples() {
        due.part("Promise 2: A pass has n samples, all 0: how many it had");
        Bench x = new Bench(due);
        x.due(0, "pass", 0, 0).due(0, "pass", 0, 1).isRow(0, 0).due(1, "pass", 0, 120).due(120, "pass", 0, 119);
        x.due(119, "about", 0, 0).due(119, "lose", 0, 0, 119).due(119, "pass", 0, 120).due(0, "about", 0, 1);
        x.due(0, "sample", 0, 0).due(0, "sample", 0, 118).due(0, "sample", 0, 119);
        x.does("put", 0, 1, 5).due(120, "pass", 0, 0).due(BEYOND, "sample", 0, 0).due(0, "pass", 0, 2).isRow(0, 0, 0);
    }

    private static void passBeyond() {
        due.part("Promise 2: BEYOND: no such pass, or n is not 0 to 120");
        noSuchPass("pass", 5);
        refused(BEYOND, "pass", 0, -1);
        refused(BEYOND, "pass", 0, 121);
        refused(BEYOND, "pass", 2, MIN);
        refused(BEYOND, "pass", 3, MAX);
    }

    private static void putOfALostOne() {
        due.part("Promise 3: A sample becomes v: 1 if it was LOST, else 0");
        Bench x = with(0, L, L);
        x.due(1, "put", 0, 1, 0).due(0, "put", 0, 1, 0).due(1, "put", 0, 2, -10000).due(0, "put", 0, 2, 10000);
        x.due(0, "put", 0, 0, -10000).isRow(0, -10000, 0, 10000);
    }

    private static void putBeyond() {
        due.part("Promise 3: BEYOND: no such pass, sample, or v is not -10000 to 10000");
        noSuchPass("put", 0, 1);
        refused(BEYOND, "put", 0, -1, 1);
        refused(BEYOND, "put", 0, 6, 1);
        refused(BEYOND, "put", 0, MIN, 1);
        refused(BEYOND, "put", 0, MAX, 1);
        refused(BEYOND, "put", 2, 0, 1);
        refused(BEYOND, "put", 0, 0, -10001);
        refused(BEYOND, "put", 0, 0, 10001);
        refused(BEYOND, "put", 0, 0, MIN);
        refused(BEYOND, "put", 0, 0, MAX);
        refused(BEYOND, "put", 0, 0, -100007);
    }

    private static void loseSome() {
        due.part("Promise 4: Samples from one on, n of them, are LOST: how many were not");
        Bench x = with(1, 2, 3, 4);
        x.due(0, "lose", 0, 0, 0).due(0, "lose", 0, 4, 0).isRow(0, 1, 2, 3, 4);
        x.due(1, "lose", 0, 3, 1).due(0, "lose", 0, 3, 1).due(1, "lose", 0, 2, 2).due(2, "lose", 0, 0, 4).isRow(0, L, L, L, L);
        x.due(0, "lose", 0, 0, 4);
        Bench full = new Bench(due);
        full.does("pass", 0, 120).due(1, "lose", 0, 119, 1).due(119, "lose", 0, 0, 120).due(0, "lose", 0, 120, 0);
        Bench empty = new Bench(due);
        empty.due(0, "lose", 0, 0, 0).due(BEYOND, "lose", 0, 0, 1);
    }

    private static void loseBeyond() {
        due.part("Promise 4: BEYOND: no such pass, or they are not all there, or n is below 0");
        noSuchPass("lose", 0, 1);
        refused(BEYOND, "lose", 0, 0, 7);
        refused(BEYOND, "lose", 0, 5, 2);
        refused(BEYOND, "lose", 0, 6, 1);
        refused(BEYOND, "lose", 0, -1, 1);
        refused(BEYOND, "lose", 0, -1, 3);
        refused(BEYOND, "lose", 0, 2, -1);
        refused(BEYOND, "lose", 0, 7, -1);
        refused(BEYOND, "lose", 0, MAX, 1);
        refused(BEYOND, "lose", 0, 1, MAX);
        refused(BEYOND, "lose", 0, MAX, MAX);
        refused(BEYOND, "lose", 0, MIN, MAX);
        refused(BEYOND, "lose", 0, MIN, MIN);
        refused(BEYOND, "lose", 0, 1, MIN);
        refused(BEYOND, "lose", 2, 0, 1);
    }

    private static void loseBeyondWithoutAny() {
        due.part("Promise 4, n 0: from is a place of the pass, or the one right behind its last");
        noSuchPass("lose", 0, 0);
        refused(BEYOND, "lose", 0, 7, 0);
        refused(BEYOND, "lose", 0, -1, 0);
    }

    private static void sampleBeyond() {
        due.part("Promise 5: BEYOND: no such pass, or sample");
        noSuchPass("sample", 0);
        refused(BEYOND, "sample", 0, -1);
        refused(BEYOND, "sample", 0, 6);
        refused(BEYOND, "sample", 2, 0);
        refused(BEYOND, "sample", 0, MIN);
        refused(BEYOND, "sample", 0, MAX);
    }

    private static void sampleLost() {
        due.part("Promise 5: LOST");
        refused(Bench.LOST, "sample", 0, 1);
        refused(Bench.LOST, "sample", 3, 0);
        with(L, 1, L).due(Bench.LOST, "sample", 0, 0).due(1, "sample", 0, 1).due(Bench.LOST, "sample", 0, 2);
    }

    private static void aboutAnEmptyOne() {
        due.part("Promise 6, of a pass without samples, and of such as are too short");
        for (int[] row : new int[][] {{}, {-900}, {-900, -1}}) {
            with(row).due(row.length, "about", 0, 0).due(0, "about", 0, 1).due(0, "about", 0, 2).due(0, "about", 0, 3);
        }
        with(L, L, L).due(3, "about", 0, 0).due(3, "about", 0, 1).due(0, "about", 0, 2).due(0, "about", 0, 3);
    }

    private static void aboutAFullOne() {
        due.part("Promise 6, of a full pass");
        Bench x = new Bench(due);
        x.does("pass", 0, 120);
        for (int i = 0; i < 120; i += 2) {
            x.does("put", 0, i, -10000);
        }
        x.due(120, "about", 0, 0).due(0, "about", 0, 1).due(60, "about", 0, 2).due(118, "about", 0, 3);
        x.does("lose", 0, 119, 1).due(1, "about", 0, 1).due(59, "about", 0, 2).due(117, "about", 0, 3);
    }

    private static void aboutClicks() {
        due.part("Promise 6: 3 CLICKS by a law of 100");
        with(0, 50, 0).due(0, "about", 0, 3);
        with(-1, 50, 0).due(1, "about", 0, 3);
        with(0, -50, 0).due(0, "about", 0, 3);
        with(0, -50, 1).due(1, "about", 0, 3);
        with(900, 0).due(0, "about", 0, 3);
        with(900, 900, 900).due(0, "about", 0, 3);
        with(L, 900, 0).due(0, "about", 0, 3);
        with(0, L, 900).due(0, "about", 0, 3);
        with(0, 900, L).due(0, "about", 0, 3);
    }

    private static void aboutBeyond() {
        due.part("Promise 6: BEYOND: no such pass, or another what");
        noSuchPass("about", 0);
        refused(BEYOND, "about", 0, -1);
        refused(BEYOND, "about", 0, 4);
        refused(BEYOND, "about", 2, MIN);
        refused(BEYOND, "about", 3, MAX);
    }

    private static void turnBeyond() {
        due.part("Promise 7: BEYOND: no such pass");
        noSuchPass("turn", 0);
    }

    private static void turnNone() {
        due.part("Promise 7: NONE: there is none such");
        // Pass 0 of a busy bench has TURNS 3 and 5.
        Bench.busy(due).due(3, "turn", 0, 0).due(5, "turn", 0, 1);
        refused(Bench.NONE, "turn", 0, 2);
        refused(Bench.NONE, "turn", 0, -1);
        refused(Bench.NONE, "turn", 0, MIN);
        refused(Bench.NONE, "turn", 0, MAX);
        refused(Bench.NONE, "turn", 2, 0);
        refused(Bench.NONE, "turn", 3, 0);
        // A place that a longer row had no longer counts.
        with(-1, 0, -1, 0).row(0, -1, 0).due(1, "turn", 0, 0).due(Bench.NONE, "turn", 0, 1);
    }
}
