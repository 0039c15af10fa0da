/** The edges of what each kind of layer makes of a row, and of promises 18 to 22, a method for each sentence. */
public final class OutputEdgeTest {
    private static final int L = Bench.L;
    private static final int MIN = Bench.MIN;
    private static final int MAX = Bench.MAX;
    private static final long BEYOND = Bench.BEYOND;
    private static final Due due = new Due("OutputEdgeTest");

    public static void main(String[] args) {
        layersInTheirOrder();
        valuesAreCut();
        lostOnesStay();
        rowsWithoutSamples();
        gainTowardsNought();
        mendNotTheEnds();
        mendAboveTheLaw();
        mendBesideLost();
        mendByTheRowAsItCame();
        mendHalfTowardsNought();
        fillFromWhatIsThere();
        fillNotAligned();
        fillByThePassAsItIs();
        bridgeAtMostSoLong();
        bridgeWithSamplesOnBothSides();
        bridgeCutDown();
        warpWithTwoTurnsAtLeast();
        warpAtMostSoMany();
        warpAtWholePlaces();
        warpCutDown();
        warpLostIfNeeded();
        cutThoseThatAreThere();
        fadeTheFirst();
        fadeTowardsNought();
        sizeBeyond();
        sizeOfTheOutput();
        outBeyond();
        outLost();
        heardWithoutAny();
        heardDifferent();
        heardBeyond();
        powerSum();
        powerBeyond();
        bakeLengths();
        bakeBeyond();
        due.end();
    }

    private static Bench with(int... samples) {
        return Bench.with(due, samples);
    }

    private static void refused(long finding, String call, Object... args) {
        Bench.refused(due, finding, call, args);
    }

    private static void noSuchPass(String call, Object... rest) {
        for (int p : new int[] {-1, 4, MIN, MAX}) {
            Object[] args = new Object[rest.length + 1];
            args[0] = p;
            System.arraycopy(rest, 0, args, 1, rest.length);
            refused(BEYOND, call, args);
        }
    }

    /** One layer on one row. */
    private static Bench made(int kind, int a, int b, int... samples) {
        return with(samples).does("layer", kind, a, b);
    }

    /** 120 samples, -1 0 -1 0 ..: a TURN at each odd place. */
    private static Bench wave() {
        Bench x = new Bench(due).does("pass", 0, 120);
        for (int i = 0; i < 120; i += 2) {
            x.does("put", 0, i, -1);
        }
        return x;
    }

    private static void layersInTheirOrder() {
        due.part("THE OUTPUT is the row that comes of it by all LAYERS that are ON, one behind the other");
        Bench x = with(10000).does("layer", 0, 200, 0).does("layer", 0, 50, 0).isOutput(0, 5000);
        x.does("move", 0, 1).isOutput(0, 10000).does("turnOn", 0, false).isOutput(0, 10000);
        x.does("turnOn", 1, false).isOutput(0, 10000).does("turnOn", 0, true).isOutput(0, 5000).isRow(0, 10000);
    }

    private static void valuesAreCut() {
        due.part("values above 10000, below -10000 are cut to these");
        made(0, 101, 0, 9900, 9901, 9902, -9900, -9901, -9902).isOutput(0, 9999, 10000, 10000, -9999, -10000, -10000);
        made(0, 400, 0, 2500, 2501, 10000, -2500, -2501, -10000).isOutput(0, 10000, 10000, 10000, -10000, -10000, -10000);
        made(0, -400, 0, 2500, 2501, 10000, -2500, -2501, -10000).isOutput(0, -10000, -10000, -10000, 10000, 10000, 10000);
        made(0, 100, 0, 10000, -10000).isOutput(0, 10000, -10000);
    }

    private static void lostOnesStay() {
        due.part("LOST ones stay LOST where nothing else is told");
        made(0, 0, 0, L, 5, L).isOutput(0, L, 0, L);
        made(0, -400, 0, L).isOutput(0, L);
        made(1, 1, 0, L, 5, L).isOutput(0, L, 5, L);
        made(6, 120, 0, L, L, L).isOutput(0, L, L, L);
        made(5, 0, 1, L, L, 5, L).isOutput(0, L, 5, L);
    }

    private static void rowsWithoutSamples() {
        due.part("each kind, on a row without samples, of one, and of two");
        for (int kind = 0; kind < 7; kind++) {
            Bench x = made(kind, 1, 1).isOutput(0);
            x.due(0, "heard", 0, 0).due(0, "heard", 0, 1).due(0, "heard", 0, 2).due(0, "power", 0).due(0, "bake", 0, 0);
            x.row(0, L);
            x.isOutput(0, L);
        }
        made(0, 100, 0, 900, 0).isOutput(0, 900, 0);
        made(1, 1, 0, 900, 0).isOutput(0, 900, 0);
        made(2, 0, 9, 900, L).isOutput(0, 900, L);
        made(3, 20, 0, 900, L).isOutput(0, 900, L);
        made(4, 30, 0, -900, 0).isOutput(0, -900, 0);
        made(5, 1, 1, 900, 0).isOutput(0, 900);
        made(6, 1, 0, 900, 0).isOutput(0, 450, 0);
    }

    private static void gainTowardsNought() {
        due.part("GAIN (a from -400 to 400): each sample times a by 100, cut towards 0");
        made(0, 1, 0, 99, 100, 199, -99, -100, -199).isOutput(0, 0, 1, 1, 0, -1, -1);
        made(0, -1, 0, 99, 100, 199, -99, -100, -199).isOutput(0, 0, -1, -1, 0, 1, 1);
        made(0, 0, 0, 10000, -10000).isOutput(0, 0, 0);
        made(0, 400, 0, 1, -1).isOutput(0, 4, -4);
        made(0, -400, 0, 1, -1).isOutput(0, -4, 4);
    }

    private static void mendNotTheEnds() {
        due.part("MEND: a place i, not the first or last");
        made(1, 1, 0, 900).isOutput(0, 900);
        made(1, 1, 0, 900, 0).isOutput(0, 900, 0);
        made(1, 1, 0, 900, 0, 0, 900).isOutput(0, 900, 450, 450, 900);
        made(1, 1, 0, 0, 900, 0).isOutput(0, 0, 0, 0);
    }

    private static void mendAboveTheLaw() {
        due.part("MEND (a from 1 to 40000): above a, or below a times -1");
        made(1, 20, 0, 0, 10, 0).isOutput(0, 0, 10, 0);
        made(1, 19, 0, 0, 10, 0).isOutput(0, 0, 0, 0);
        made(1, 20, 0, 0, -10, 0).isOutput(0, 0, -10, 0);
        made(1, 19, 0, 0, -10, 0).isOutput(0, 0, 0, 0);
        made(1, 1, 0, 0, 1, 1).isOutput(0, 0, 1, 1);
        made(1, 1, 0, 0, 1, 0).isOutput(0, 0, 0, 0);
        made(1, 39999, 0, 10000, -10000, 10000).isOutput(0, 10000, 10000, 10000);
        made(1, 40000, 0, 10000, -10000, 10000).isOutput(0, 10000, -10000, 10000);
        made(1, 39999, 0, -10000, 10000, -10000).isOutput(0, -10000, -10000, -10000);
        made(1, 40000, 0, -10000, 10000, -10000).isOutput(0, -10000, 10000, -10000);
    }

    private static void mendBesideLost() {
        due.part("MEND: none of the three LOST");
        made(1, 1, 0, L, 900, 0).isOutput(0, L, 900, 0);
        made(1, 1, 0, 0, 900, L).isOutput(0, 0, 900, L);
        made(1, 1, 0, 0, L, 900).isOutput(0, 0, L, 900);
        made(1, 1, 0, L, 0, 900, 0, L).isOutput(0, L, 0, 0, 0, L);
    }

    private static void mendByTheRowAsItCame() {
        due.part("MEND: all by the row as it came");
        made(1, 1, 0, 0, 100, 0, 100, 0).isOutput(0, 0, 0, 100, 0, 0);
    }

    private static void mendHalfTowardsNought() {
        due.part("MEND: half the sum of both neighbours, cut towards 0");
        made(1, 1, 0, 3, 900, 0).isOutput(0, 3, 1, 0);
        made(1, 1, 0, -3, 900, 0).isOutput(0, -3, -1, 0);
        made(1, 1, 0, -1, 900, 0).isOutput(0, -1, 0, 0);
        made(1, 1, 0, 10000, 0, 10000).isOutput(0, 10000, 10000, 10000);
        made(1, 1, 0, -10000, 0, -10000).isOutput(0, -10000, -10000, -10000);
    }

    private static void fillFromWhatIsThere() {
        due.part("FILL: each LOST sample i becomes the pass's sample i + d, if that is there and not LOST");
        // ALIGNED by 2: the first two of the pass are ahead of the row, its last two are not there.
        Bench later = with(L, 1, 20, 3, 40, L, L, L).row(1, 8, 9, 77, 1, 20, 3, 40, L).does("layer", 2, 1, 9);
        later.due(2, "align", 0, 1, 9).isOutput(0, 77, 1, 20, 3, 40, L, L, L);
        later.does("put", 1, 7, 66).isOutput(0, 77, 1, 20, 3, 40, 66, L, L);
        // ALIGNED by -2: the first two of the row have none.
        Bench ahead = with(L, L, L, 1, 20, 3, 40, L).row(1, 77, 1, 20, 3, 40, 66).does("layer", 2, 1, 9);
        ahead.due(-2, "align", 0, 1, 9).isOutput(0, L, L, 77, 1, 20, 3, 40, 66);
        ahead.does("lose", 1, 0, 1).isOutput(0, L, L, L, 1, 20, 3, 40, 66);
        // Those that are not LOST stay, though the pass has others.
        with(5, 5, 5, 5, L).row(1, 6, 6, 6, 6, 6).does("layer", 2, 1, 0).isOutput(0, 5, 5, 5, 5, 6);
    }

    private static void fillNotAligned() {
        due.part("FILL: if it is not ALIGNED by any, all stay");
        with(1, 2, 3, L, L).row(1, 1, 2, 3, 4, 5).does("layer", 2, 1, 9).isOutput(0, 1, 2, 3, L, L);
        with(1, 2, 3, 4, L).row(1, 1, 2, 3, 4, 5).does("layer", 2, 1, 9).isOutput(0, 1, 2, 3, 4, 5);
        with(1, 2, 3, 4, L).does("layer", 2, 3, 9).isOutput(0, 1, 2, 3, 4, L);
        with(L, L, L, L, L).row(1, 1, 2, 3, 4, 5).does("layer", 2, 1, 9).isOutput(0, L, L, L, L, L);
        // Only a shift of 1 leaves four places, which b must allow.
        Bench x = with(1, 2, 3, 4, L).row(1, L, 1, 2, 3, 4, 5);
        x.does("layer", 2, 1, 0).isOutput(0, 1, 2, 3, 4, L).does("drop", 0).does("layer", 2, 1, 1).isOutput(0, 1, 2, 3, 4, 5);
    }

    private static void fillByThePassAsItIs() {
        due.part("FILL: The pass as it is, not its OUTPUT");
        Bench x = with(1, 2, 3, 4, L).row(1, 1, 2, 3, 4, 5).does("layer", 0, 0, 0).does("layer", 2, 1, 0);
        x.isOutput(0, 0, 0, 0, 0, 5).does("move", 1, 0).isOutput(0, 0, 0, 0, 0, 0);
        Bench itself = with(1, 2, 3, 4, L).does("layer", 2, 0, 9).isOutput(0, 1, 2, 3, 4, L);
        // What a CUT took is in the pass still.
        itself.row(0, 9, L, 1, 20, 3, 40, 5).does("layer", 5, 0, 1).does("move", 1, 0);
        itself.isOutput(0, L, 1, 20, 3, 40, 5);
    }

    private static void bridgeAtMostSoLong() {
        due.part("BRIDGE (a from 1 to 20): of each run of LOST samples, at most a long");
        made(3, 1, 0, 0, L, 10, L, L, 40).isOutput(0, 0, 5, 10, L, L, 40);
        made(3, 2, 0, 0, L, 10, L, L, 40).isOutput(0, 0, 5, 10, 20, 30, 40);
        Bench wide = new Bench(due).does("pass", 0, 22).does("lose", 0, 1, 20).does("put", 0, 21, 21).does("layer", 3, 20, 0);
        wide.due(1, "out", 0, 1).due(20, "out", 0, 20).due(0, "heard", 0, 1);
        wide.does("drop", 0).does("layer", 3, 19, 0).due(20, "heard", 0, 1).due(Bench.LOST, "out", 0, 1);
        Bench wider = new Bench(due).does("pass", 0, 23).does("lose", 0, 1, 21).does("layer", 3, 20, 0);
        wider.due(21, "heard", 0, 1);
    }

    private static void bridgeWithSamplesOnBothSides() {
        due.part("BRIDGE: with samples ahead of it and behind it");
        made(3, 20, 0, L, 5).isOutput(0, L, 5);
        made(3, 20, 0, 5, L).isOutput(0, 5, L);
        made(3, 20, 0, L).isOutput(0, L);
        made(3, 20, 0, L, L, L).isOutput(0, L, L, L);
        made(3, 20, 0, L, 5, L, 7, L).isOutput(0, L, 5, 6, 7, L);
        // A run that a CUT has brought to the end has none behind it any more.
        made(5, 2, 1, 5, L, 7).does("layer", 3, 20, 0).isOutput(0, 5, L);
    }

    private static void bridgeCutDown() {
        due.part("BRIDGE: the quotient cut down (the greatest whole number not above)");
        made(3, 1, 0, 0, L, 1).isOutput(0, 0, 0, 1);
        made(3, 1, 0, 0, L, -1).isOutput(0, 0, -1, -1);
        made(3, 1, 0, 1, L, 0).isOutput(0, 1, 0, 0);
        made(3, 2, 0, 5, L, L, 1).isOutput(0, 5, 3, 2, 1);
        made(3, 1, 0, -10000, L, 10000).isOutput(0, -10000, 0, 10000);
        made(3, 2, 0, 10000, L, L, -10000).isOutput(0, 10000, 3333, -3334, -10000);
        made(3, 3, 0, 4, L, L, L, 4).isOutput(0, 4, 4, 4, 4, 4);
    }

    private static void warpWithTwoTurnsAtLeast() {
        due.part("WARP (a from 1 to 30): if the row has two TURNS at least");
        made(4, 2, 0, 5, 6, 7).isOutput(0, 5, 6, 7);
        made(4, 2, 0, -5, 6, 7).isOutput(0, -5, 6, 7);
        made(4, 1, 0, -5, 6, -7, 8).isOutput(0, 6, 8);
        made(4, 2, 0, -5, 6, -7, 8).isOutput(0, 6, -7, 8);
        // A LOST one beside it takes the second TURN away.
        made(4, 2, 0, -5, 6, L, 8).isOutput(0, -5, 6, L, 8);
    }

    private static void warpAtMostSoMany() {
        due.part("WARP: up to a times one less than there are TURNS, at most 120 in all");
        wave().does("layer", 4, 1, 0).due(60, "size", 0);
        wave().does("layer", 4, 2, 0).due(119, "size", 0).due(0, "out", 0, 118).due(BEYOND, "out", 0, 119);
        wave().does("layer", 4, 3, 0).due(120, "size", 0).due(BEYOND, "out", 0, 120);
        wave().does("layer", 4, 30, 0).due(120, "size", 0).due(BEYOND, "out", 0, 120);
        // 8 TURNS by 17 are just 120, 5 by 30 are 121, of which the last TURN goes.
        wave().does("layer", 5, 16, 120).does("layer", 4, 17, 0).due(120, "size", 0).due(0, "out", 0, 119);
        wave().does("layer", 5, 10, 120).does("layer", 4, 30, 0).due(120, "size", 0).due(-1, "out", 0, 119);
        wave().does("layer", 5, 8, 120).does("layer", 4, 30, 0).due(91, "size", 0).due(0, "out", 0, 90);
    }

    private static void warpAtWholePlaces() {
        due.part("WARP: if that is whole, the sample there");
        // TURNS 1 and 5: by 4 each place is whole, by 2 the one half way, by 1 both TURNS alone.
        made(4, 4, 0, -1, 1, 20, -30, -4, 5).isOutput(0, 1, 20, -30, -4, 5);
        made(4, 2, 0, -1, 1, 20, -30, -4, 5).isOutput(0, 1, -30, 5);
        made(4, 1, 0, -1, 1, 20, -30, -4, 5).isOutput(0, 1, 5);
        made(4, 2, 0, -1, 1, L, -30, -4, 5).isOutput(0, 1, -30, 5);
        // TURNS 1 and 6 by 5: at a whole place its neighbours are not needed, LOST or not.
        made(4, 5, 0, -1, 1, 20, L, 4, -5, 6).isOutput(0, 1, 20, L, 4, -5, 6);
    }

    private static void warpCutDown() {
        due.part("WARP: else that on the straight line between both next ones, cut down");
        made(4, 4, 0, -1, 0, -1, 0).isOutput(0, 0, -1, -1, -1, 0);
        made(4, 4, 0, -1, 1, -2, 3).isOutput(0, 1, -1, -2, 0, 3);
        // TURNS 1 and 3 by 30: r times 2 by 30; the widest step there is.
        Bench wide = made(4, 30, 0, -10000, 10000, -10000, 10000);
        wide.due(31, "size", 0).due(8666, "out", 0, 1).due(-8667, "out", 0, 14).due(-10000, "out", 0, 15).due(-8667, "out", 0, 16);
        wide.due(8666, "out", 0, 29).due(10000, "out", 0, 30);
    }

    private static void warpLostIfNeeded() {
        due.part("WARP: LOST if one that is needed is");
        // TURNS 1 and 4 by 2: the one between is at 2 1/2.
        made(4, 2, 0, -1, 1, 6, -7, 4).isOutput(0, 1, -1, 4);
        made(4, 2, 0, -1, 1, L, -7, 4).isOutput(0, 1, L, 4);
        // TURNS 1 and 6 by 2: the one between is at 3 1/2, and 2 and 5 are not needed.
        made(4, 2, 0, -1, 1, L, 6, 8, -5, 4).isOutput(0, 1, 7, 4);
        made(4, 2, 0, -1, 1, 2, 6, L, -5, 4).isOutput(0, 1, L, 4);
        made(4, 2, 0, -1, 1, 2, L, 8, -5, 4).isOutput(0, 1, L, 4);
    }

    private static void cutThoseThatAreThere() {
        due.part("CUT (a from 0 to 119, b from 1 to 120): samples a to a + b - 1 go, those that are there");
        made(5, 0, 1, 1, 2, 3).isOutput(0, 2, 3);
        made(5, 0, 2, 1, 2, 3).isOutput(0, 3);
        made(5, 0, 3, 1, 2, 3).isOutput(0);
        made(5, 0, 4, 1, 2, 3).isOutput(0);
        made(5, 0, 120, 1, 2, 3).isOutput(0);
        made(5, 1, 1, 1, 2, 3).isOutput(0, 1, 3);
        made(5, 2, 1, 1, 2, 3).isOutput(0, 1, 2);
        made(5, 2, 120, 1, 2, 3).isOutput(0, 1, 2);
        made(5, 3, 1, 1, 2, 3).isOutput(0, 1, 2, 3);
        made(5, 119, 120, 1, 2, 3).isOutput(0, 1, 2, 3);
        Bench full = new Bench(due).does("pass", 0, 120).does("put", 0, 119, 7).does("put", 0, 118, 6);
        full.does("layer", 5, 119, 1).due(119, "size", 0).due(6, "out", 0, 118).due(BEYOND, "out", 0, 119);
        full.does("drop", 0).does("layer", 5, 0, 119).isOutput(0, 7).does("drop", 0).does("layer", 5, 0, 120).isOutput(0);
    }

    private static void fadeTheFirst() {
        due.part("FADE (a from 1 to 120): the first a samples: sample k times (k + 1) by (a + 1)");
        made(6, 1, 0, 100, 100).isOutput(0, 50, 100);
        made(6, 2, 0, 99, 99, 99).isOutput(0, 33, 66, 99);
        made(6, 3, 0, 100, 100, 100).isOutput(0, 25, 50, 75);
        made(6, 4, 0, 100, 100, 100).isOutput(0, 20, 40, 60);
        Bench full = new Bench(due).does("pass", 0, 120).does("put", 0, 0, 10000).does("put", 0, 119, 10000);
        full.does("layer", 6, 120, 0).due(82, "out", 0, 0).due(9917, "out", 0, 119);
        full.does("drop", 0).does("layer", 6, 119, 0).due(83, "out", 0, 0).due(10000, "out", 0, 119);
    }

    private static void fadeTowardsNought() {
        due.part("FADE: quotients are cut towards 0");
        made(6, 1, 0, 1, 1).isOutput(0, 0, 1);
        made(6, 1, 0, -1, -1).isOutput(0, 0, -1);
        made(6, 2, 0, -100, -100, -100).isOutput(0, -33, -66, -100);
        made(6, 120, 0, -10000).isOutput(0, -82);
    }

    private static void sizeBeyond() {
        due.part("Promise 18: BEYOND");
        noSuchPass("size");
    }

    private static void sizeOfTheOutput() {
        due.part("Promise 18: How many samples THE OUTPUT of a pass has, none and the most");
        new Bench(due).due(0, "size", 3).does("pass", 3, 120).due(120, "size", 3).due(0, "size", 0);
        made(4, 30, 0, -1, 0, -1, 0).due(31, "size", 0).does("layer", 5, 0, 120).due(0, "size", 0);
    }

    private static void outBeyond() {
        due.part("Promise 19: BEYOND: no such pass, or sample");
        noSuchPass("out", 0);
        refused(BEYOND, "out", 0, -1);
        refused(BEYOND, "out", 0, 6);
        refused(BEYOND, "out", 2, 0);
        refused(BEYOND, "out", 0, MIN);
        refused(BEYOND, "out", 0, MAX);
        // By the length of THE OUTPUT, be it shorter or longer than the pass.
        made(5, 2, 1, 1, 2, 3).due(2, "out", 0, 1).due(BEYOND, "out", 0, 2).due(3, "sample", 0, 2);
        made(4, 9, 0, -1, 0, -1, 0).due(0, "out", 0, 9).due(BEYOND, "out", 0, 10).due(BEYOND, "sample", 0, 9);
    }

    private static void outLost() {
        due.part("Promise 19: LOST");
        refused(Bench.LOST, "out", 3, 0);
        with(1, L).due(1, "out", 0, 0).due(Bench.LOST, "out", 0, 1).due(BEYOND, "out", 0, 2).due(2, "count", 3);
        made(3, 1, 0, 1, L, 3).due(2, "out", 0, 1).due(Bench.LOST, "sample", 0, 1);
    }

    private static void heardWithoutAny() {
        due.part("Promise 20: 0 the greatest sample without its sign (0 without any), 1 how many are LOST");
        with().due(0, "heard", 0, 0).due(0, "heard", 0, 1);
        with(L, L).due(0, "heard", 0, 0).due(2, "heard", 0, 1);
        with(-10000, 9999, L).due(10000, "heard", 0, 0).due(1, "heard", 0, 1);
        with(-1, L, 0).due(1, "heard", 0, 0);
        made(5, 0, 120, 5, L).due(0, "heard", 0, 0).due(0, "heard", 0, 1);
        new Bench(due).does("pass", 0, 120).does("lose", 0, 0, 120).due(120, "heard", 0, 1).due(0, "heard", 0, 2);
    }

    private static void heardDifferent() {
        due.part("Promise 20: 2 how many differ (also if just one of both is LOST, or the pass has none there)");
        with(1, L, 3).due(0, "heard", 0, 2);
        made(3, 1, 0, 1, L, 3).due(1, "heard", 0, 2);
        made(5, 0, 1, 1, L, L, 4).due(2, "heard", 0, 2);
        made(5, 0, 2, 1, 2).due(0, "heard", 0, 2);
        // Of seven samples that at 2 alone is the pass's; three it has not.
        made(4, 6, 0, -1, 1, -1, 1).isOutput(0, 1, 0, -1, -1, -1, 0, 1).due(6, "heard", 0, 2);
        // Where the pass has none, a LOST one differs too.
        made(4, 3, 0, -1, 1, L, -1, 1).isOutput(0, 1, L, -1, 1).due(4, "heard", 0, 2);
        // 0 L L L L L L -1 -1 -1 0: LOST in both at 2 alone.
        Bench lost = made(4, 10, 0, -1, 0, L, -1, 0);
        lost.due(11, "size", 0).due(6, "heard", 0, 1).due(10, "heard", 0, 2);
    }

    private static void heardBeyond() {
        due.part("Promise 20: BEYOND: no such pass, or another what");
        noSuchPass("heard", 0);
        refused(BEYOND, "heard", 0, -1);
        refused(BEYOND, "heard", 0, 3);
        refused(BEYOND, "heard", 2, MIN);
        refused(BEYOND, "heard", 3, MAX);
    }

    private static void powerSum() {
        due.part("Promise 21: The sum of squares of all samples of THE OUTPUT that are not LOST");
        with().due(0, "power", 0);
        with(L, L).due(0, "power", 0);
        with(-3, L, 4).due(25, "power", 0);
        Bench loud = new Bench(due).does("pass", 0, 120);
        for (int i = 0; i < 120; i++) {
            loud.does("put", 0, i, i % 2 == 0 ? 10000 : -10000);
        }
        loud.due(12000000000L, "power", 0).does("layer", 0, -400, 0).due(12000000000L, "power", 0);
        loud.does("lose", 0, 0, 98).due(2200000000L, "power", 0);
    }

    private static void powerBeyond() {
        due.part("Promise 21: BEYOND");
        noSuchPass("power");
    }

    private static void bakeLengths() {
        due.part("Promise 22: THE OUTPUT of a pass becomes pass q: how many samples");
        with(1, 2).due(0, "bake", 1, 0).isRow(0);
        new Bench(due).does("pass", 0, 120).does("put", 0, 119, 5).due(120, "bake", 0, 3).due(5, "sample", 3, 119);
        made(5, 0, 1, 1, L, 3).due(2, "bake", 0, 0).isRow(0, L, 3).isOutput(0, 3).due(1, "bake", 0, 0).due(0, "bake", 0, 0).isRow(0);
        made(4, 9, 0, -1, 0, -1, 0).due(10, "bake", 0, 0).due(10, "about", 0, 0);
    }

    private static void bakeBeyond() {
        due.part("Promise 22: BEYOND: no such pass (either)");
        noSuchPass("bake", 0);
        for (int q : new int[] {-1, 4, MIN, MAX}) {
            refused(BEYOND, "bake", 0, q);
            refused(BEYOND, "bake", q, q);
        }
    }
}
