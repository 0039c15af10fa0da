/** The edges that promises 29 and 30 name, a method for each sentence, and the most calls of an object. */
public final class WholeEdgeTest {
    private static final int L = Bench.L;
    private static final int MIN = Bench.MIN;
    private static final int MAX = Bench.MAX;
    private static final long BEYOND = Bench.BEYOND;
    private static final long NONE = Bench.NONE;
    private static final Due due = new Due("WholeEdgeTest");

    public static void main(String[] args) {
        undoEachAct();
        undoWithoutAFinding();
        undoNoOtherCall();
        undoHowManyMore();
        undoNone();
        undoTheLatestTwenty();
        undoRoundAndRound();
        undoSuchAsChangedNothing();
        undoMarksOfAnotherPass();
        undoNeitherSheetsNorFindings();
        countNone();
        countMost();
        countMarksSomewhere();
        countFindingsEver();
        countThisOneToo();
        countBeyond();
        mostCalls();
        due.end();
    }

    private static Bench with(int... samples) {
        return Bench.with(due, samples);
    }

    private static Bench ready() {
        Bench x = with(1, L, 3).row(1, 4, 5).sheet(0, 16, 9);
        return x.does("layer", 0, 200, 0).does("layer", 6, 3, 0).does("turnOn", 1, false).does("mark", 0, 0, 2);
    }

    private static void undoEachAct() {
        due.part("Promise 29: The latest act .. (pass, put, .. mark, without a finding) is undone");
        Object[][] acts = {
            {"pass", 0, 7}, {"pass", 0, 0}, {"put", 0, 1, 5}, {"put", 0, 0, -1}, {"lose", 0, 0, 3}, {"lay", 1, 0},
            {"layer", 5, 0, 1}, {"turnOn", 0, false}, {"turnOn", 1, true}, {"move", 0, 1}, {"move", 1, 0}, {"drop", 0},
            {"drop", 1}, {"bake", 0, 1}, {"bake", 0, 0}, {"bake", 0, 2}, {"join", 0, 1, 1, 2}, {"join", 0, 1, 1, 0},
            {"mark", 0, 1, -1}, {"mark", 0, 1, 1}, {"mark", 5, 0, 0}};
        for (Object[] act : acts) {
            Object[] args = java.util.Arrays.copyOfRange(act, 1, act.length);
            Bench x = ready().does((String) act[0], args);
            // Passes take 3 + 3 acts (samples that are 0 none), then 4 more, then this one.
            x.due(11, "undo");
            x.isRow(0, 1, L, 3).isRow(1, 4, 5).isRow(2).isRow(3).order(200, 3);
            x.due(1, "told", 0, 3).due(0, "told", 1, 3).due(0, "told", 0, 0).due(6, "told", 1, 0);
            x.due(2, "moment", 0).due(1, "count", 2);
            x.due(10, "undo").due(0, "count", 2).due(9, "undo").due(2, "count", 1);
        }
    }

    private static void undoWithoutAFinding() {
        due.part("Promise 29: acts that answer a finding are not kept");
        Bench x = with(1).due(BEYOND, "pass", 4, 1).due(BEYOND, "put", 0, 1, 1).due(BEYOND, "lose", 0, 0, 2);
        x.due(Bench.MISSING, "lay", 0, 0).due(BEYOND, "layer", 7, 0, 0).due(BEYOND, "turnOn", 0, true).due(BEYOND, "move", 0, 0);
        x.due(BEYOND, "drop", 0).due(BEYOND, "bake", 0, 4).due(BEYOND, "join", 0, 0, 2, 0).due(BEYOND, "mark", 0, 0, 1);
        x.due(1, "undo").isRow(0, 0).due(0, "undo").isRow(0).due(NONE, "undo");
        Bench full = new Bench(due);
        for (int place = 0; place < 8; place++) {
            full.does("layer", 0, 1, 0);
        }
        full.due(Bench.FULL, "layer", 0, 1, 0).due(7, "undo").due(7, "count", 0);
    }

    private static void undoNoOtherCall() {
        due.part("Promise 29: calls that change no passes, layers or marks are not kept");
        Bench x = new Bench(due).does("pass", 0, 4);
        x.sheet(0, 8, 1).sheet(1, 8, 2).does("copy", 0, 0, 1, 0, 1).does("sheet", 1, 0, 0);
        x.does("about", 0, 0).does("size", 0).does("out", 0, 0).does("heard", 0, 0).does("power", 0).does("count", 0);
        x.does("align", 0, 0, 0).does("differ", 0, 0, 0, true).does("seam", 0, 0, 0, 0).does("sample", 0, 0);
        x.due(0, "undo").isRow(0).due(NONE, "undo");
        Bench layered = new Bench(due).does("layer", 0, 1, 0).does("told", 0, 0).does("as", 0, 0).due(0, "undo");
        layered.does("pass", 0, 1).does("mark", 0, 0, 0).does("moment", 0).due(1, "undo");
    }

    private static void undoHowManyMore() {
        due.part("Promise 29: how many more can be");
        Bench x = new Bench(due).does("pass", 0, 1);
        x.due(0, "undo").does("pass", 0, 1).does("pass", 0, 2).due(1, "undo").isRow(0, 0).due(0, "undo").isRow(0);
        // What was undone is no act that can be undone, nor is undo.
        x.due(NONE, "undo").does("pass", 0, 3).does("pass", 0, 4).due(1, "undo").does("pass", 0, 5).due(1, "undo").isRow(0, 0, 0, 0);
    }

    private static void undoNone() {
        due.part("Promise 29: NONE");
        Bench x = new Bench(due).due(NONE, "undo").due(NONE, "undo").due(2, "count", 3);
        x.does("layer", 0, 1, 0).due(0, "undo").due(NONE, "undo").due(3, "count", 3).due(0, "count", 0);
    }

    private static void undoTheLatestTwenty() {
        due.part("Promise 29: The latest 20 are kept");
        for (int acts : new int[] {19, 20, 21, 45}) {
            Bench x = new Bench(due);
            for (int n = 1; n <= acts; n++) {
                x.due(n - 1, "pass", 0, n);
            }
            int kept = Math.min(20, acts);
            for (int left = kept - 1; left >= 0; left--) {
                x.due(left, "undo").due(acts - kept + left, "about", 0, 0);
            }
            x.due(NONE, "undo").due(acts - kept, "about", 0, 0);
        }
    }

    private static void undoRoundAndRound() {
        due.part("Promise 29, acts and undo in turns, past the twentieth again and again");
        Bench x = new Bench(due);
        int has = 0;
        int kept = 0;
        for (int round = 0; round < 15; round++) {
            for (int n = 0; n < 7; n++) {
                x.due(has, "pass", 1, has + 1);
                has++;
                kept = Math.min(20, kept + 1);
            }
            for (int n = 0; n < 3; n++) {
                has--;
                kept--;
                x.due(kept, "undo").due(has, "about", 1, 0);
            }
        }
        while (kept > 0) {
            has--;
            kept--;
            x.due(kept, "undo").due(has, "about", 1, 0);
        }
        x.due(NONE, "undo").due(has, "about", 1, 0);
    }

    private static void undoSuchAsChangedNothing() {
        due.part("Promise 29: also such as changed nothing");
        Bench x = new Bench(due).does("pass", 0, 1).does("layer", 0, 1, 0).due(1, "undo").does("layer", 0, 1, 0);
        x.due(1, "pass", 0, 1).due(2, "undo").due(0, "put", 0, 0, 0).due(2, "undo").due(0, "lose", 0, 0, 0).due(2, "undo");
        x.does("sheet", 0, 8, 1).due(1, "lay", 0, 0).due(2, "undo").due(0, "turnOn", 0, true).due(2, "undo");
        x.due(1, "move", 0, 0).due(2, "undo").due(0, "bake", 3, 3).due(2, "undo").due(1, "join", 0, 0, 1, 0).due(2, "undo");
        x.due(1, "mark", 0, 0, -1).due(2, "undo").isRow(0, 0).due(1, "count", 0);
        // They take the place of older ones.
        for (int n = 0; n < 20; n++) {
            x.due(0, "turnOn", 0, true);
        }
        for (int left = 19; left >= 0; left--) {
            x.due(left, "undo");
        }
        x.due(NONE, "undo").due(1, "count", 0);
    }

    private static void undoMarksOfAnotherPass() {
        due.part("Promise 29: a mark comes back to its pass");
        Bench x = with(1, 2).row(1, -1, 1, -1, 1).does("layer", 4, 2, 0);
        x.does("mark", 0, 1, 1).due(0, "moment", 0).does("mark", 0, 0, 1).due(1, "moment", 0);
        x.does("undo").due(0, "moment", 0).does("mark", 0, 0, -1).due(NONE, "moment", 0).does("undo").due(0, "moment", 0);
        x.does("undo").due(NONE, "moment", 0);
    }

    private static void undoNeitherSheetsNorFindings() {
        due.part("Promise 29: passes, layers or marks, neither sheets nor the number of findings");
        Bench x = new Bench(due).does("sheet", 0, 8, 1).does("lay", 0, 0).does("write", 0, 0, 5).due(BEYOND, "size", 4);
        x.due(0, "undo").isRow(0).due(1, "lay", 0, 0).isRow(0, 5);
        // Findings: size, a sample behind the last by isRow twice, lay.
        x.does("sheet", 0, 0, 0).does("undo").due(Bench.MISSING, "lay", 0, 0).due(4, "count", 3);
    }

    private static void countNone() {
        due.part("Promise 30: 0 LAYERS, 1 LAYERS that are ON, 2 marks .., 3 findings: none");
        new Bench(due).due(0, "count", 0).due(0, "count", 1).due(0, "count", 2).due(0, "count", 3);
        new Bench(due).does("layer", 0, 1, 0).does("turnOn", 0, false).due(1, "count", 0).due(0, "count", 1);
    }

    private static void countMost() {
        due.part("Promise 30: as many LAYERS and marks as there can be");
        Bench x = with(1);
        for (int n = 0; n < 8; n++) {
            x.due(n, "layer", 0, 1, 0).due(n + 1, "count", 0).due(n + 1, "count", 1);
        }
        for (int mark = 0; mark < 6; mark++) {
            x.due(1, "mark", mark, 0, 0).due(mark + 1, "count", 2);
        }
        for (int place = 0; place < 8; place++) {
            x.due(1, "turnOn", place, false).due(7 - place, "count", 1).due(8, "count", 0);
        }
        for (int mark = 5; mark >= 0; mark--) {
            x.due(1, "mark", mark, 0, -1).due(mark, "count", 2);
        }
    }

    private static void countMarksSomewhere() {
        due.part("Promise 30: 2 marks that are somewhere, also if their pass has no such sample any more");
        Bench x = with(1, 2).does("mark", 0, 0, 1).does("mark", 0, 0, 0).due(1, "count", 2);
        x.does("pass", 0, 0).due(NONE, "moment", 0).due(1, "count", 2).does("pass", 0, 2);
        x.does("layer", 5, 0, 1).due(Bench.LOST, "moment", 0).due(1, "count", 2);
    }

    private static void countFindingsEver() {
        due.part("Promise 30: 3 how many acts answered a finding ever");
        Object[][] acts = {
            {"pass", 4, 0}, {"put", 0, 9, 0}, {"lose", 0, 9, 1}, {"sample", 0, 9}, {"sample", 0, 1}, {"about", 0, 4},
            {"turn", 4, 0}, {"turn", 0, 9}, {"sheet", 4, 8, 1}, {"sheet", 0, 8, -1}, {"sheet", 0, 8, 121},
            {"write", 4, 0, 0}, {"write", 3, 0, 0}, {"write", 0, 9, 0}, {"copy", 4, 0, 0, 0, 0}, {"copy", 3, 0, 0, 0, 0},
            {"copy", 0, 0, 2, 0, 0}, {"copy", 0, 0, 1, 0, 9}, {"lay", 4, 0}, {"lay", 0, 3}, {"layer", 7, 0, 0},
            {"turnOn", 9, true}, {"move", 9, 0}, {"drop", 9}, {"told", 9, 0}, {"as", 9, 0}, {"as", 0, 6}, {"size", 4},
            {"out", 0, 9}, {"out", 3, 0}, {"heard", 0, 3}, {"power", 4}, {"bake", 4, 0}, {"align", 0, 1, 10},
            {"align", 2, 2, 9}, {"differ", 0, 1, 10, true}, {"seam", 0, 1, 1, 0}, {"seam", 2, 2, 0, 0},
            {"join", 0, 1, 9, 0}, {"mark", 6, 0, 0}, {"moment", 6}, {"moment", 1}, {"count", 4}};
        Bench x = Bench.busy(due).due(0, "count", 3);
        for (int n = 0; n < acts.length; n++) {
            Object[] args = java.util.Arrays.copyOfRange(acts[n], 1, acts[n].length);
            due.holds(acts[n][0] + " answers a finding", x.ask((String) acts[n][0], args) < -99999);
            x.due(n + 1, "count", 3);
        }
        // Undone or not, they were answered.
        x.does("undo").does("undo").due(acts.length, "count", 3);
    }

    private static void countThisOneToo() {
        due.part("Promise 30: this one, too, if it does");
        new Bench(due).due(0, "count", 3).due(BEYOND, "count", 4).due(1, "count", 3).due(BEYOND, "count", -1).due(2, "count", 3);
    }

    private static void countBeyond() {
        due.part("Promise 30: BEYOND: another what");
        for (int what : new int[] {-1, 4, MIN, MAX}) {
            Bench.refused(due, BEYOND, "count", what);
        }
    }

    private static void mostCalls() {
        due.part("An object is used for at most 512 calls: the last is answered as the first");
        Bench refused = new Bench(due);
        for (int n = 0; n < 511; n++) {
            refused.due(BEYOND, "pass", 0, 121);
        }
        refused.due(511, "count", 3);
        Bench acts = new Bench(due);
        for (int n = 0; n < 511; n++) {
            acts.does("pass", 3, n % 121);
        }
        acts.due(19, "undo");
    }
}
