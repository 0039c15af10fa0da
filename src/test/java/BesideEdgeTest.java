/** The edges that promises 23 to 26 name, a method for each sentence. */
public final class BesideEdgeTest {
    private static final int L = Bench.L;
    private static final int MIN = Bench.MIN;
    private static final int MAX = Bench.MAX;
    private static final long BEYOND = Bench.BEYOND;
    private static final long NONE = Bench.NONE;
    private static final int[] NO_PASS = {-1, 4, MIN, MAX};
    private static final Due due = new Due("BesideEdgeTest");

    public static void main(String[] args) {
        alignWithinD();
        alignBeyond();
        alignNone();
        differAtTheEnds();
        differOfTooFewPlaces();
        differBeyond();
        seamAtTheEnds();
        seamOfSeveral();
        seamNeitherLost();
        seamBeyond();
        seamNone();
        joinAtTheEnds();
        joinIfItHasSuch();
        joinIntoASource();
        joinBeyond();
        due.end();
    }

    private static Bench with(int... samples) {
        return Bench.with(due, samples);
    }

    private static void refused(long finding, String call, Object... args) {
        Bench.refused(due, finding, call, args);
    }

    private static void alignWithinD() {
        due.part("Promise 23: By what pass p is ALIGNED to pass q by D");
        Bench x = with(1, 20, 3, 40, 5).row(1, 0, 0, 0, 1, 20, 3, 40, 5);
        x.due(3, "align", 0, 1, 9).due(3, "align", 0, 1, 3).due(-3, "align", 1, 0, 3).due(0, "align", 0, 0, 0);
        // What lies just outside D is not found: of what is left, 45 by 5 is the least.
        x.due(78, "differ", 0, 1, 0, false).due(45, "differ", 0, 1, 1, false).due(109, "differ", 0, 1, 2, false);
        x.due(67, "differ", 0, 1, -1, false).due(4, "differ", 0, 1, -1, true).due(1, "align", 0, 1, 2);
        // The passes as they are, not their OUTPUTS.
        x.does("layer", 5, 0, 3).due(3, "align", 0, 1, 9);
    }

    private static void alignBeyond() {
        due.part("Promise 23: BEYOND: no such pass (either), or D");
        for (int p : NO_PASS) {
            refused(BEYOND, "align", p, 0, 0);
            refused(BEYOND, "align", 0, p, 0);
        }
        for (int most : new int[] {-1, 10, MIN, MAX}) {
            refused(BEYOND, "align", 0, 1, most);
            refused(BEYOND, "align", 2, 2, most);
        }
    }

    private static void alignNone() {
        due.part("Promise 23: NONE: it is not by any");
        refused(NONE, "align", 0, 2, 9);
        refused(NONE, "align", 2, 0, 0);
        refused(NONE, "align", 2, 2, 9);
        refused(NONE, "align", 3, 3, 9);
        with(1, 2, 3).row(1, 1, 2, 3, 4).due(NONE, "align", 0, 1, 9).due(NONE, "align", 1, 0, 9).due(0, "align", 1, 1, 9);
    }

    private static void differAtTheEnds() {
        due.part("Promise 24: The sum of what both differ by, for a shift d; number: at how many places");
        Bench x = with(0, 0, 0, 0, 0, 0, 0, 0, 0, 7).row(1, 5, 1);
        x.due(2, "differ", 0, 1, -9, false).due(1, "differ", 0, 1, -9, true);
        x.due(2, "differ", 1, 0, 9, false).due(1, "differ", 1, 0, 9, true);
        x.due(0, "differ", 0, 1, 9, false).due(0, "differ", 0, 1, 9, true);
        x.due(1, "differ", 0, 1, 1, false).due(1, "differ", 0, 1, 1, true);
        x.due(6, "differ", 0, 1, 0, false).due(2, "differ", 0, 1, 0, true);
        x.row(1, -10000, 10000).row(0, 10000, -10000).due(40000, "differ", 0, 1, 0, false);
    }

    private static void differOfTooFewPlaces() {
        due.part("Promise 24, of passes that share no place, or too few to be ALIGNED");
        Bench x = with(5, L, 5).row(1, L, 7);
        x.due(0, "differ", 0, 1, 0, false).due(0, "differ", 0, 1, 0, true);
        x.due(2, "differ", 0, 1, 1, false).due(1, "differ", 0, 1, 1, true);
        x.due(0, "differ", 0, 2, 0, true).due(0, "differ", 2, 0, 0, false).due(0, "differ", 2, 2, -9, true);
        x.due(NONE, "align", 0, 1, 9).due(2, "differ", 0, 0, 0, true);
    }

    private static void differBeyond() {
        due.part("Promise 24: BEYOND: no such pass (either), or d is not -9 to 9");
        for (boolean number : new boolean[] {false, true}) {
            for (int p : NO_PASS) {
                refused(BEYOND, "differ", p, 0, 0, number);
                refused(BEYOND, "differ", 0, p, 0, number);
            }
            for (int d : new int[] {-10, 10, MIN, MAX}) {
                refused(BEYOND, "differ", 0, 1, d, number);
            }
        }
    }

    private static void seamAtTheEnds() {
        due.part("Promise 25: The place from one to another one at which two passes differ least");
        Bench x = with(0, 5, 9, 3).row(1, 4, 4, 4, 4);
        x.due(1, "seam", 0, 1, 0, 3).due(3, "seam", 0, 1, 2, 3).due(2, "seam", 0, 1, 2, 2).due(0, "seam", 0, 1, 0, 0);
        x.due(3, "seam", 0, 1, 3, 3).due(3, "seam", 0, 1, 3, MAX).due(1, "seam", 0, 1, 0, MAX).due(0, "seam", 0, 0, 0, 3);
        x.row(0, 0, 0, 0, 4).due(3, "seam", 0, 1, 0, 3).due(3, "seam", 0, 1, 0, 4).due(3, "seam", 1, 0, 0, 9).due(0, "seam", 0, 1, 0, 2);
        Bench full = new Bench(due).does("pass", 0, 120).does("pass", 1, 120).does("lose", 0, 0, 119);
        full.due(119, "seam", 0, 1, 0, 119).due(119, "seam", 0, 1, 119, 200).due(NONE, "seam", 0, 1, 0, 118);
        // The widest there is.
        with(10000).row(1, -10000).due(0, "seam", 0, 1, 0, 0);
    }

    private static void seamOfSeveral() {
        due.part("Promise 25: of several the first");
        Bench x = with(9, 3, 5, 3, 5).row(1, 4, 4, 4, 4, 4);
        x.due(1, "seam", 0, 1, 0, 4).due(2, "seam", 0, 1, 2, 4).due(4, "seam", 0, 1, 4, 4);
    }

    private static void seamNeitherLost() {
        due.part("Promise 25: neither LOST, both there");
        Bench x = with(4, 4, 9, 4, 4).row(1, L, 4, 4);
        x.does("lose", 0, 1, 1);
        x.due(2, "seam", 0, 1, 0, 4).due(2, "seam", 1, 0, 0, 4).due(NONE, "seam", 0, 1, 0, 1).due(NONE, "seam", 0, 1, 3, 4);
        x.due(NONE, "seam", 1, 0, 3, 4);
    }

    private static void seamBeyond() {
        due.part("Promise 25: BEYOND: no such pass (either), from is below 0, or to is below it");
        for (int p : NO_PASS) {
            refused(BEYOND, "seam", p, 0, 0, 5);
            refused(BEYOND, "seam", 0, p, 0, 5);
        }
        refused(BEYOND, "seam", 0, 1, -1, 5);
        refused(BEYOND, "seam", 0, 1, MIN, MAX);
        refused(BEYOND, "seam", 0, 1, 0, -1);
        refused(BEYOND, "seam", 0, 1, 3, 2);
        refused(BEYOND, "seam", 0, 1, MAX, 0);
        refused(BEYOND, "seam", 0, 1, MAX, MIN);
        refused(BEYOND, "seam", 0, 1, -1, -1);
        refused(BEYOND, "seam", 2, 2, 1, 0);
    }

    private static void seamNone() {
        due.part("Promise 25: NONE: there is none");
        refused(NONE, "seam", 0, 1, 6, 6);
        refused(NONE, "seam", 0, 1, 1, 1);
        refused(NONE, "seam", 0, 2, 0, 119);
        refused(NONE, "seam", 2, 0, 0, MAX);
        refused(NONE, "seam", 0, 1, MAX, MAX);
        refused(NONE, "seam", 0, 1, 120, 121);
    }

    private static void joinAtTheEnds() {
        due.part("Promise 26: Pass r becomes pass p's samples ahead of a place, and pass q's from it on: how many");
        Bench x = with(1, L, 3).row(1, 10, 20, 30, L);
        x.due(4, "join", 0, 1, 0, 2).isRow(2, 10, 20, 30, L).due(4, "join", 0, 1, 1, 2).isRow(2, 1, 20, 30, L);
        x.due(4, "join", 0, 1, 3, 2).isRow(2, 1, L, 3, L).isRow(0, 1, L, 3).isRow(1, 10, 20, 30, L);
        Bench full = new Bench(due).does("pass", 0, 120).does("pass", 1, 120).does("put", 0, 118, 5).does("put", 1, 119, 6);
        full.due(120, "join", 0, 1, 119, 2).due(5, "sample", 2, 118).due(6, "sample", 2, 119);
        full.due(120, "join", 0, 1, 120, 3).due(5, "sample", 3, 118).due(0, "sample", 3, 119);
        full.due(120, "join", 2, 1, 0, 3).due(0, "sample", 3, 118).due(BEYOND, "sample", 3, 120);
    }

    private static void joinIfItHasSuch() {
        due.part("Promise 26: pass q's from it on (if it has such)");
        Bench x = with(1, 2, 3).row(1, 10, 20);
        x.due(2, "join", 0, 1, 2, 2).isRow(2, 1, 2).due(3, "join", 0, 1, 3, 2).isRow(2, 1, 2, 3);
        x.due(2, "join", 0, 1, 1, 2).isRow(2, 1, 20);
        x.due(1, "join", 0, 3, 1, 2).isRow(2, 1).due(0, "join", 0, 3, 0, 2).isRow(2).due(0, "join", 3, 3, 0, 2).isRow(2);
    }

    private static void joinIntoASource() {
        due.part("Promise 26, r being p, q or both");
        with(1, 2, 3).row(1, 10, 20, 30, 40).due(4, "join", 0, 1, 1, 0).isRow(0, 1, 20, 30, 40).isRow(1, 10, 20, 30, 40);
        with(1, 2, 3).row(1, 10, 20, 30, 40).due(4, "join", 0, 1, 2, 1).isRow(1, 1, 2, 30, 40).isRow(0, 1, 2, 3);
        with(1, 2, 3).row(1, 10).due(3, "join", 0, 1, 3, 1).isRow(1, 1, 2, 3);
        with(1, 2, 3).due(3, "join", 0, 0, 2, 0).isRow(0, 1, 2, 3).due(3, "join", 0, 0, 3, 0).isRow(0, 1, 2, 3);
    }

    private static void joinBeyond() {
        due.part("Promise 26: BEYOND: no such pass (any), or p has not as many samples ahead of it, or it is below 0");
        for (int p : NO_PASS) {
            refused(BEYOND, "join", p, 1, 0, 2);
            refused(BEYOND, "join", 0, p, 0, 2);
            refused(BEYOND, "join", 0, 1, 0, p);
        }
        // Pass 0 of a busy bench has 6 samples, pass 1 has 7.
        refused(BEYOND, "join", 0, 1, 7, 2);
        refused(BEYOND, "join", 1, 0, 8, 2);
        refused(BEYOND, "join", 2, 0, 1, 3);
        refused(BEYOND, "join", 0, 1, -1, 2);
        refused(BEYOND, "join", 0, 1, MIN, 2);
        refused(BEYOND, "join", 0, 1, MAX, 2);
    }
}
