/** The edges that promises 12 to 17 name, a method for each sentence. */
public final class LayersEdgeTest {
    private static final int MIN = Bench.MIN;
    private static final int MAX = Bench.MAX;
    private static final long BEYOND = Bench.BEYOND;
    private static final long KIND = Bench.KIND;
    private static final int[] NO_PLACE = {-1, 3, 8, MIN, MAX};
    private static final Due due = new Due("LayersEdgeTest");

    public static void main(String[] args) {
        layerKinds();
        layerFirstNumber();
        layerSecondNumber();
        layerSecondNumberNotLookedAt();
        layerFull();
        turnOnAgain();
        turnOnBeyond();
        moveToTheEnds();
        moveToItsOwnPlace();
        moveBeyond();
        dropToTheLast();
        dropBeyond();
        toldWithoutB();
        toldBeyond();
        asAny();
        asBeyond();
        asKind();
        due.end();
    }

    private static Bench fresh() {
        return new Bench(due);
    }

    private static void refused(long finding, String call, Object... args) {
        Bench.refused(due, finding, call, args);
    }

    /** A bench with layers whose first numbers are 0, 1, .. */
    private static Bench layers(int n) {
        Bench x = fresh();
        for (int a = 0; a < n; a++) {
            x.due(a, "layer", 0, a, 0);
        }
        return x;
    }

    private static void layerKinds() {
        due.part("Promise 12: BEYOND: kind is not 0 to 6");
        Bench x = fresh();
        for (int kind = 0; kind < 7; kind++) {
            x.due(kind, "layer", kind, 1, 1).due(kind, "told", kind, 0);
        }
        for (int kind : new int[] {-1, 7, MIN, MAX}) {
            refused(BEYOND, "layer", kind, 1, 1);
        }
    }

    private static void layerFirstNumber() {
        due.part("Promise 12: BEYOND: a is not as told");
        int[][] ends = {{-400, 400}, {1, 40000}, {0, 3}, {1, 20}, {1, 30}, {0, 119}, {1, 120}};
        for (int kind = 0; kind < 7; kind++) {
            Bench x = fresh();
            x.due(0, "layer", kind, ends[kind][0], 1).due(1, "layer", kind, ends[kind][1], 1);
            x.order(ends[kind][0], ends[kind][1]);
            refused(BEYOND, "layer", kind, ends[kind][0] - 1, 1);
            refused(BEYOND, "layer", kind, ends[kind][1] + 1, 1);
            refused(BEYOND, "layer", kind, MIN, 1);
            refused(BEYOND, "layer", kind, MAX, 1);
        }
    }

    private static void layerSecondNumber() {
        due.part("Promise 12: BEYOND: b is not as told");
        Bench x = fresh();
        x.due(0, "layer", 2, 0, 0).due(1, "layer", 2, 0, 9).due(2, "layer", 5, 0, 1).due(3, "layer", 5, 0, 120);
        x.due(0, "told", 0, 2).due(9, "told", 1, 2).due(1, "told", 2, 2).due(120, "told", 3, 2);
        for (int b : new int[] {-1, 10, MIN, MAX}) {
            refused(BEYOND, "layer", 2, 0, b);
        }
        for (int b : new int[] {0, 121, MIN, MAX}) {
            refused(BEYOND, "layer", 5, 0, b);
        }
    }

    private static void layerSecondNumberNotLookedAt() {
        due.part("Promise 12: b not looked at of those that have none");
        for (int kind : new int[] {0, 1, 3, 4, 6}) {
            Bench x = fresh();
            x.due(0, "layer", kind, 1, MIN).due(1, "layer", kind, 1, MAX).due(2, "layer", kind, 1, -1);
            x.due(0, "told", 0, 2).due(0, "told", 1, 2).due(0, "told", 2, 2);
        }
    }

    private static void layerFull() {
        due.part("Promise 12: FULL: there are 8");
        Bench x = layers(8);
        x.due(Bench.FULL, "layer", 0, 9, 0).due(Bench.FULL, "layer", 6, 1, 0).order(0, 1, 2, 3, 4, 5, 6, 7);
        x.due(7, "drop", 0).due(7, "layer", 0, 9, 0).due(Bench.FULL, "layer", 0, 9, 0).order(1, 2, 3, 4, 5, 6, 7, 9);
        x.due(9, "undo").order(1, 2, 3, 4, 5, 6, 7).due(8, "undo").due(Bench.FULL, "layer", 0, 9, 0);
        x.order(0, 1, 2, 3, 4, 5, 6, 7);
    }

    private static void turnOnAgain() {
        due.part("Promise 13: The LAYER at a place is ON, or not: 1 if that is new, else 0");
        Bench x = layers(8);
        x.due(0, "turnOn", 7, true).due(1, "turnOn", 7, false).due(0, "turnOn", 7, false).due(7, "count", 1);
        x.due(1, "turnOn", 0, false).due(6, "count", 1).due(1, "turnOn", 7, true).due(7, "count", 1).due(0, "told", 0, 3);
    }

    private static void turnOnBeyond() {
        due.part("Promise 13: BEYOND");
        for (int place : NO_PLACE) {
            refused(BEYOND, "turnOn", place, true);
            refused(BEYOND, "turnOn", place, false);
        }
        fresh().due(BEYOND, "turnOn", 0, true);
        layers(8).due(BEYOND, "turnOn", 8, false).due(0, "turnOn", 7, true);
    }

    private static void moveToTheEnds() {
        due.part("Promise 14: The LAYER at a place comes to another place; those between move by one: 1");
        layers(8).due(1, "move", 0, 7).order(1, 2, 3, 4, 5, 6, 7, 0);
        layers(8).due(1, "move", 7, 0).order(7, 0, 1, 2, 3, 4, 5, 6);
        layers(8).due(1, "move", 6, 7).order(0, 1, 2, 3, 4, 5, 7, 6);
        layers(3).due(1, "move", 2, 1).order(0, 2, 1);
        Bench off = layers(3).due(1, "turnOn", 0, false).due(1, "move", 0, 2);
        off.due(1, "told", 0, 3).due(1, "told", 1, 3).due(0, "told", 2, 3);
    }

    private static void moveToItsOwnPlace() {
        due.part("Promise 14, to the place where it is");
        layers(1).due(1, "move", 0, 0).order(0).due(1, "undo");
        layers(8).due(1, "move", 7, 7).due(1, "move", 0, 0).order(0, 1, 2, 3, 4, 5, 6, 7);
    }

    private static void moveBeyond() {
        due.part("Promise 14: BEYOND (either)");
        for (int place : NO_PLACE) {
            refused(BEYOND, "move", place, 0);
            refused(BEYOND, "move", 0, place);
            refused(BEYOND, "move", place, place);
        }
        fresh().due(BEYOND, "move", 0, 0);
        layers(8).due(BEYOND, "move", 8, 0).due(BEYOND, "move", 0, 8).order(0, 1, 2, 3, 4, 5, 6, 7);
    }

    private static void dropToTheLast() {
        due.part("Promise 15: The LAYER at a place goes: how many there are");
        Bench x = layers(8).due(7, "drop", 7).order(0, 1, 2, 3, 4, 5, 6).due(6, "drop", 0).order(1, 2, 3, 4, 5, 6);
        for (int left = 5; left >= 0; left--) {
            x.due(left, "drop", 0);
        }
        x.order().due(BEYOND, "drop", 0);
    }

    private static void dropBeyond() {
        due.part("Promise 15: BEYOND");
        for (int place : NO_PLACE) {
            refused(BEYOND, "drop", place);
        }
        fresh().due(BEYOND, "drop", 0);
        layers(8).due(BEYOND, "drop", 8);
    }

    private static void toldWithoutB() {
        due.part("Promise 16: 2 b (0 of those that have none), 3 whether it is ON");
        Bench x = fresh();
        for (int kind = 0; kind < 7; kind++) {
            x.due(kind, "layer", kind, 1, 7);
            x.due(kind, "told", kind, 0).due(1, "told", kind, 1).due(kind == 2 || kind == 5 ? 7 : 0, "told", kind, 2);
            x.due(1, "told", kind, 3).due(1, "turnOn", kind, false).due(0, "told", kind, 3);
            x.due(kind, "told", kind, 0).due(1, "told", kind, 1).due(kind == 2 || kind == 5 ? 7 : 0, "told", kind, 2);
        }
    }

    private static void toldBeyond() {
        due.part("Promise 16: BEYOND: no such place, or another what");
        for (int place : NO_PLACE) {
            refused(BEYOND, "told", place, 0);
        }
        for (int what : new int[] {-1, 4, MIN, MAX}) {
            refused(BEYOND, "told", 0, what);
        }
        layers(8).due(7, "told", 7, 1).due(BEYOND, "told", 8, 1);
    }

    private static void asAny() {
        due.part("Promise 17: A LAYER as one of a kind (-1: any): its place");
        Bench x = fresh();
        for (int kind = 6; kind >= 0; kind--) {
            x.due(6 - kind, "layer", kind, 1, 1);
            x.due(6 - kind, "as", 6 - kind, -1).due(6 - kind, "as", 6 - kind, kind);
        }
        // One that is not ON is of its kind all the same.
        x.due(1, "turnOn", 0, false).due(0, "as", 0, 6).due(KIND, "as", 0, 5);
    }

    private static void asBeyond() {
        due.part("Promise 17: BEYOND: no such place, or kind is not -1 to 6");
        for (int place : NO_PLACE) {
            refused(BEYOND, "as", place, -1);
            refused(BEYOND, "as", place, 0);
        }
        for (int kind : new int[] {-2, 7, MIN, MAX}) {
            refused(BEYOND, "as", 0, kind);
        }
    }

    private static void asKind() {
        due.part("Promise 17: KIND: it is not of that kind, nor of one under it");
        refused(KIND, "as", 0, 6);
        int[][] fit = {{0}, {1}, {2, 1}, {3, 1}, {4}, {5, 4}, {6}};
        for (int kind = 0; kind < 7; kind++) {
            Bench x = fresh();
            x.due(0, "layer", kind, 1, 1);
            for (int asked = 0; asked < 7; asked++) {
                boolean fits = asked == fit[kind][0] || asked == fit[kind][fit[kind].length - 1];
                x.due(fits ? 0 : KIND, "as", 0, asked);
            }
        }
    }
}
