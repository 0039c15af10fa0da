/** One part for each promise of the document: ordinary inputs, the edges that it names, wrong inputs. */
public final class PromiseTest {
    private static final int L = Integer.MIN_VALUE;
    private static final int MIN = Integer.MIN_VALUE;
    private static final int MAX = Integer.MAX_VALUE;
    private static final long BEYOND = Due.BEYOND;
    private static final long MISSING = Due.MISSING;
    private static final long SIZE = Due.SIZE;
    private static final long KIND = Due.KIND;
    private static final long FULL = Due.FULL;
    private static final long NONE = Due.NONE;
    private static final long LOST = Due.LOST;
    private static final Due due = new Due("PromiseTest");

    public static void main(String[] args) {
        newObject();
        pass();
        put();
        lose();
        sample();
        about();
        turn();
        sheet();
        write();
        copy();
        lay();
        layer();
        turnOn();
        move();
        drop();
        told();
        as();
        size();
        out();
        gain();
        mend();
        fill();
        bridge();
        warp();
        cut();
        fade();
        heard();
        power();
        bake();
        align();
        differ();
        seam();
        join();
        mark();
        moment();
        undo();
        undoOfEachAct();
        count();
        everyFindingCounts();
        findingsChangeNothing();
        due.end();
    }

    /** A pass that has just these samples (L: LOST). */
    private static void set(TapeBench x, int p, int... samples) {
        due.holds("a pass can be made", x.pass(p, samples.length) >= 0);
        for (int i = 0; i < samples.length; i++) {
            if (samples[i] == L) {
                due.is("lose", x.lose(p, i, 1), 1);
            } else {
                due.is("put", x.put(p, i, samples[i]), 0);
            }
        }
    }

    private static TapeBench with(int... samples) {
        TapeBench x = new TapeBench();
        set(x, 0, samples);
        return x;
    }

    private static void isPass(TapeBench x, int p, int... want) {
        due.is("about(" + p + ", 0)", x.about(p, 0), want.length);
        for (int i = 0; i < want.length; i++) {
            due.is("sample(" + p + ", " + i + ")", x.sample(p, i), want[i] == L ? LOST : want[i]);
        }
        due.is("sample behind the last", x.sample(p, want.length), BEYOND);
    }

    private static void isOutput(TapeBench x, int p, int... want) {
        due.is("size(" + p + ")", x.size(p), want.length);
        for (int i = 0; i < want.length; i++) {
            due.is("out(" + p + ", " + i + ")", x.out(p, i), want[i] == L ? LOST : want[i]);
        }
        due.is("out behind the last", x.out(p, want.length), BEYOND);
    }

    private static void newObject() {
        due.part("Promise 1");
        TapeBench x = new TapeBench();
        for (int p = 0; p < 4; p++) {
            isPass(x, p);
            due.is("size", x.size(p), 0);
            due.is("lay", x.lay(0, p), MISSING);
        }
        for (int mark = 0; mark < 6; mark++) {
            due.is("moment", x.moment(mark), NONE);
        }
        due.is("undo", x.undo(), NONE);
        TapeBench y = new TapeBench();
        due.is("count(0)", y.count(0), 0);
        due.is("count(1)", y.count(1), 0);
        due.is("count(2)", y.count(2), 0);
        due.is("count(3)", y.count(3), 0);
    }

    private static void pass() {
        due.part("Promise 2");
        TapeBench x = new TapeBench();
        due.is("pass(0, 120)", x.pass(0, 120), 0);
        due.is("put", x.put(0, 2, 77), 0);
        due.is("lose", x.lose(0, 0, 1), 1);
        due.is("pass(0, 4)", x.pass(0, 4), 120);
        isPass(x, 0, 0, 0, 0, 0);
        due.is("pass(0, 0)", x.pass(0, 0), 4);
        due.is("pass(0, 3)", x.pass(0, 3), 0);
        due.is("pass(3, 1)", x.pass(3, 1), 0);
        due.is("pass(-1, 1)", x.pass(-1, 1), BEYOND);
        due.is("pass(4, 1)", x.pass(4, 1), BEYOND);
        due.is("pass(MIN, 1)", x.pass(MIN, 1), BEYOND);
        due.is("pass(MAX, 1)", x.pass(MAX, 1), BEYOND);
        due.is("pass(0, -1)", x.pass(0, -1), BEYOND);
        due.is("pass(0, 121)", x.pass(0, 121), BEYOND);
        due.is("pass(0, MAX)", x.pass(0, MAX), BEYOND);
        due.is("pass(0, MIN)", x.pass(0, MIN), BEYOND);
        isPass(x, 0, 0, 0, 0);
        isPass(x, 1);
    }

    private static void put() {
        due.part("Promise 3");
        TapeBench x = new TapeBench();
        x.pass(1, 3);
        due.is("put(1, 0, 10000)", x.put(1, 0, 10000), 0);
        due.is("put(1, 2, -10000)", x.put(1, 2, -10000), 0);
        due.is("lose(1, 1, 1)", x.lose(1, 1, 1), 1);
        due.is("put(1, 1, 5)", x.put(1, 1, 5), 1);
        due.is("put(1, 1, 6)", x.put(1, 1, 6), 0);
        due.is("put(1, 0, 10001)", x.put(1, 0, 10001), BEYOND);
        due.is("put(1, 0, -10001)", x.put(1, 0, -10001), BEYOND);
        due.is("put(1, 0, MIN)", x.put(1, 0, MIN), BEYOND);
        due.is("put(1, 0, MAX)", x.put(1, 0, MAX), BEYOND);
        due.is("put(1, 0, LOST)", x.put(1, 0, (int) LOST), BEYOND);
        due.is("put(1, 3, 0)", x.put(1, 3, 0), BEYOND);
        due.is("put(1, -1, 0)", x.put(1, -1, 0), BEYOND);
        due.is("put(0, 0, 0)", x.put(0, 0, 0), BEYOND);
        due.is("put(4, 0, 0)", x.put(4, 0, 0), BEYOND);
        due.is("put(-1, 0, 0)", x.put(-1, 0, 0), BEYOND);
        isPass(x, 1, 10000, 6, -10000);
    }

    private static void lose() {
        due.part("Promise 4");
        TapeBench x = with(1, 2, 3, 4, 5, 6);
        due.is("lose(0, 1, 2)", x.lose(0, 1, 2), 2);
        due.is("lose(0, 0, 4)", x.lose(0, 0, 4), 2);
        due.is("lose(0, 0, 4)", x.lose(0, 0, 4), 0);
        due.is("lose(0, 5, 1)", x.lose(0, 5, 1), 1);
        due.is("lose(0, 3, 0)", x.lose(0, 3, 0), 0);
        due.is("lose(0, 6, 0)", x.lose(0, 6, 0), 0);
        due.is("lose(0, 5, 2)", x.lose(0, 5, 2), BEYOND);
        due.is("lose(0, 0, 7)", x.lose(0, 0, 7), BEYOND);
        due.is("lose(0, -1, 2)", x.lose(0, -1, 2), BEYOND);
        due.is("lose(0, 4, -1)", x.lose(0, 4, -1), BEYOND);
        due.is("lose(0, MAX, MAX)", x.lose(0, MAX, MAX), BEYOND);
        due.is("lose(0, 4, MAX)", x.lose(0, 4, MAX), BEYOND);
        due.is("lose(0, MAX, 4)", x.lose(0, MAX, 4), BEYOND);
        due.is("lose(0, MIN, MIN)", x.lose(0, MIN, MIN), BEYOND);
        due.is("lose(0, 4, MIN)", x.lose(0, 4, MIN), BEYOND);
        due.is("lose(4, 0, 0)", x.lose(4, 0, 0), BEYOND);
        due.is("lose(-1, 0, 0)", x.lose(-1, 0, 0), BEYOND);
        isPass(x, 0, L, L, L, L, 5, L);
    }

    private static void sample() {
        due.part("Promise 5");
        TapeBench x = with(-7, L, 9);
        isPass(x, 0, -7, L, 9);
        due.is("sample(0, -1)", x.sample(0, -1), BEYOND);
        due.is("sample(0, MAX)", x.sample(0, MAX), BEYOND);
        due.is("sample(0, MIN)", x.sample(0, MIN), BEYOND);
        due.is("sample(1, 0)", x.sample(1, 0), BEYOND);
        due.is("sample(4, 0)", x.sample(4, 0), BEYOND);
        due.is("sample(-1, 0)", x.sample(-1, 0), BEYOND);
    }

    private static void about() {
        due.part("Promise 6");
        TapeBench x = with(-1, 0, -5, L, 5, -2, 3, -1);
        due.is("about(0, 0)", x.about(0, 0), 8);
        due.is("about(0, 1)", x.about(0, 1), 1);
        due.is("about(0, 2)", x.about(0, 2), 2);
        due.is("about(0, 3)", x.about(0, 3), 0);
        due.is("about(0, 4)", x.about(0, 4), BEYOND);
        due.is("about(0, -1)", x.about(0, -1), BEYOND);
        due.is("about(4, 0)", x.about(4, 0), BEYOND);
        due.is("about(-1, 0)", x.about(-1, 0), BEYOND);
        due.is("a bend of 100 is none", with(0, 50, 0).about(0, 3), 0);
        due.is("a bend of -100 is none", with(0, -50, 0).about(0, 3), 0);
        due.is("a bend of 101", with(0, 50, -1).about(0, 3), 1);
        due.is("a bend of -101", with(0, -50, 1).about(0, 3), 1);
        due.is("not beside what is LOST", with(L, 900, 0, 0).about(0, 3), 1);
        due.is("not the first or the last", with(900, 0).about(0, 3), 0);
        due.is("the widest bend", with(-10000, 10000, -10000).about(0, 3), 1);
    }

    private static void turn() {
        due.part("Promise 7");
        TapeBench x = with(-1, 0, -5, L, 5, -2, 3, 4, -1, -1, 0);
        due.is("turn(0, 0)", x.turn(0, 0), 1);
        due.is("turn(0, 1)", x.turn(0, 1), 6);
        due.is("turn(0, 2)", x.turn(0, 2), 10);
        due.is("turn(0, 3)", x.turn(0, 3), NONE);
        due.is("turn(0, -1)", x.turn(0, -1), NONE);
        due.is("turn(0, MAX)", x.turn(0, MAX), NONE);
        due.is("turn(0, MIN)", x.turn(0, MIN), NONE);
        due.is("turn(1, 0)", x.turn(1, 0), NONE);
        due.is("turn(4, 0)", x.turn(4, 0), BEYOND);
        due.is("turn(-1, -1)", x.turn(-1, -1), BEYOND);
        due.is("a first sample is no TURN", with(5, 6).turn(0, 0), NONE);
        due.is("0 ahead is not below 0", with(0, 0, 6).about(0, 2), 0);
    }

    private static void sheet() {
        due.part("Promise 8");
        TapeBench x = new TapeBench();
        due.is("sheet(0, 8, 2)", x.sheet(0, 8, 2), 2);
        due.is("write(0, 1, 5)", x.write(0, 1, 5), 0);
        due.is("sheet(0, 16, 3)", x.sheet(0, 16, 3), 3);
        due.is("lay(0, 0)", x.lay(0, 0), 3);
        isPass(x, 0, 0, 0, 0);
        due.is("sheet(3, 32, 120)", x.sheet(3, 32, 120), 120);
        due.is("sheet(1, 8, 0)", x.sheet(1, 8, 0), 0);
        due.is("a sheet without numbers is there", x.lay(0, 1), 0);
        due.is("sheet(4, 8, 1)", x.sheet(4, 8, 1), BEYOND);
        due.is("sheet(-1, 8, 1)", x.sheet(-1, 8, 1), BEYOND);
        due.is("sheet(4, 8, -1)", x.sheet(4, 8, -1), BEYOND);
        due.is("sheet(0, 7, -1)", x.sheet(0, 7, -1), BEYOND);
        due.is("sheet(0, 64, 1)", x.sheet(0, 64, 1), BEYOND);
        due.is("sheet(0, -8, 1)", x.sheet(0, -8, 1), BEYOND);
        due.is("sheet(0, 24, 1)", x.sheet(0, 24, 1), BEYOND);
        due.is("sheet(0, 8, -1)", x.sheet(0, 8, -1), SIZE);
        due.is("sheet(0, 8, MIN)", x.sheet(0, 8, MIN), SIZE);
        due.is("sheet(0, 8, 121)", x.sheet(0, 8, 121), BEYOND);
        due.is("sheet(0, 8, MAX)", x.sheet(0, 8, MAX), BEYOND);
        due.is("sheet(0, 0, -1)", x.sheet(0, 0, -1), SIZE);
        due.is("sheet(0, 0, 121)", x.sheet(0, 0, 121), BEYOND);
        due.is("the sheet is as it was", x.lay(0, 0), 3);
        due.is("sheet(0, 0, 5)", x.sheet(0, 0, 5), 0);
        due.is("it is MISSING", x.lay(0, 0), MISSING);
        due.is("sheet(0, 0, 0)", x.sheet(0, 0, 0), 0);
    }

    private static void write() {
        due.part("Promise 9");
        TapeBench x = new TapeBench();
        due.is("write(4, 0, 0)", x.write(4, 0, 0), BEYOND);
        due.is("write(-1, 0, 0)", x.write(-1, 0, 0), BEYOND);
        due.is("write(0, 0, 0)", x.write(0, 0, 0), MISSING);
        due.is("write(0, -1, 0)", x.write(0, -1, 0), MISSING);
        x.sheet(0, 8, 4);
        due.is("write(0, 4, 0)", x.write(0, 4, 0), BEYOND);
        due.is("write(0, -1, 0)", x.write(0, -1, 0), BEYOND);
        due.is("write(0, MAX, 0)", x.write(0, MAX, 0), BEYOND);
        due.is("write(0, 0, 127)", x.write(0, 0, 127), 0);
        due.is("write(0, 1, 129)", x.write(0, 1, 129), 0);
        due.is("write(0, 2, 256)", x.write(0, 2, 256), 0);
        due.is("write(0, 3, MAX)", x.write(0, 3, MAX), 0);
        due.is("lay(0, 0)", x.lay(0, 0), 4);
        isPass(x, 0, 127, -127, 0, -1);
        x.sheet(0, 16, 3);
        due.is("write(0, 0, 65535)", x.write(0, 0, 65535), 0);
        due.is("write(0, 1, 70000)", x.write(0, 1, 70000), 0);
        due.is("write(0, 2, MIN)", x.write(0, 2, MIN), 0);
        due.is("lay(0, 0)", x.lay(0, 0), 3);
        isPass(x, 0, -1, 4464, 0);
        x.sheet(0, 32, 3);
        due.is("write(0, 0, 70000)", x.write(0, 0, 70000), 0);
        due.is("write(0, 1, -9999)", x.write(0, 1, -9999), 0);
        due.is("write(0, 2, MIN)", x.write(0, 2, MIN), 0);
        due.is("lay(0, 0)", x.lay(0, 0), 1);
        isPass(x, 0, L, -9999, L);
    }

    private static void copy() {
        due.part("Promise 10");
        TapeBench x = new TapeBench();
        x.sheet(0, 16, 5);
        x.sheet(1, 16, 3);
        x.sheet(2, 8, 5);
        for (int i = 0; i < 5; i++) {
            x.write(0, i, i + 1);
        }
        due.is("copy(0, 2, 1, 1, 2)", x.copy(0, 2, 1, 1, 2), 2);
        x.lay(0, 1);
        isPass(x, 0, 0, 3, 4);
        due.is("to itself, ahead", x.copy(0, 0, 0, 1, 4), 4);
        x.lay(0, 0);
        isPass(x, 0, 1, 1, 2, 3, 4);
        due.is("to itself, back", x.copy(0, 2, 0, 0, 3), 3);
        x.lay(0, 0);
        isPass(x, 0, 2, 3, 4, 3, 4);
        due.is("none of them", x.copy(0, 5, 1, 3, 0), 0);
        due.is("copy(4, ..)", x.copy(4, 0, 0, 0, 1), BEYOND);
        due.is("copy(-1, ..)", x.copy(-1, 0, 3, 0, 1), BEYOND);
        due.is("copy(.., 4, ..)", x.copy(3, 0, 4, 0, 1), BEYOND);
        due.is("copy(.., -1, ..)", x.copy(0, 0, -1, 0, 1), BEYOND);
        due.is("from a MISSING one", x.copy(3, 0, 0, 0, 1), MISSING);
        due.is("to a MISSING one", x.copy(2, -1, 3, 0, 1), MISSING);
        due.is("of other bits", x.copy(0, 0, 2, 0, 1), KIND);
        due.is("of other bits, none such", x.copy(0, 9, 2, 9, -1), KIND);
        due.is("the source ends", x.copy(0, 4, 1, 0, 2), BEYOND);
        due.is("the target ends", x.copy(0, 0, 1, 2, 2), BEYOND);
        due.is("from below 0", x.copy(0, -1, 1, 0, 1), BEYOND);
        due.is("to below 0", x.copy(0, 0, 1, -1, 1), BEYOND);
        due.is("n below 0", x.copy(0, 1, 1, 1, -1), BEYOND);
        due.is("n MAX", x.copy(0, 1, 1, 1, MAX), BEYOND);
        due.is("from MAX", x.copy(0, MAX, 1, 1, 1), BEYOND);
        due.is("to MAX", x.copy(0, 1, 1, MAX, 1), BEYOND);
        due.is("n MIN", x.copy(0, 1, 1, 1, MIN), BEYOND);
        x.lay(0, 1);
        isPass(x, 0, 0, 3, 4);
    }

    private static void lay() {
        due.part("Promise 11");
        TapeBench x = with(1, 2, 3, 4, 5);
        x.sheet(0, 8, 3);
        x.write(0, 0, -128);
        x.write(0, 1, -127);
        x.write(0, 2, 127);
        due.is("lay(0, 0)", x.lay(0, 0), 2);
        isPass(x, 0, L, -127, 127);
        x.sheet(1, 16, 5);
        x.write(1, 0, -128);
        x.write(1, 1, 10000);
        x.write(1, 2, 10001);
        x.write(1, 3, -10000);
        x.write(1, 4, -10001);
        due.is("lay(3, 1)", x.lay(3, 1), 3);
        isPass(x, 3, -128, 10000, L, -10000, L);
        x.sheet(2, 32, 3);
        x.write(2, 0, (int) LOST);
        x.write(2, 1, -128);
        x.write(2, 2, MAX);
        due.is("lay(3, 2)", x.lay(3, 2), 1);
        isPass(x, 3, L, -128, L);
        due.is("lay(4, 0)", x.lay(4, 0), BEYOND);
        due.is("lay(-1, 3)", x.lay(-1, 3), BEYOND);
        due.is("lay(0, 4)", x.lay(0, 4), BEYOND);
        due.is("lay(0, -1)", x.lay(0, -1), BEYOND);
        due.is("lay(0, 3)", x.lay(0, 3), MISSING);
        isPass(x, 0, L, -127, 127);
        x.write(0, 1, 9);
        isPass(x, 0, L, -127, 127);
    }

    private static void layer() {
        due.part("Promise 12");
        int[][] ends = {{0, -400, 400}, {1, 1, 40000}, {2, 0, 3}, {3, 1, 20}, {4, 1, 30}, {5, 0, 119}, {6, 1, 120}};
        for (int[] end : ends) {
            TapeBench x = new TapeBench();
            due.is("kind " + end[0] + " least a", x.layer(end[0], end[1], 1), 0);
            due.is("kind " + end[0] + " most a", x.layer(end[0], end[2], 1), 1);
            due.is("kind " + end[0] + " a too small", x.layer(end[0], end[1] - 1, 1), BEYOND);
            due.is("kind " + end[0] + " a too great", x.layer(end[0], end[2] + 1, 1), BEYOND);
            due.is("kind " + end[0] + " a MIN", x.layer(end[0], MIN, 1), BEYOND);
            due.is("kind " + end[0] + " a MAX", x.layer(end[0], MAX, 1), BEYOND);
            boolean looks = end[0] == 2 || end[0] == 5;
            due.is("kind " + end[0] + " b MAX", x.layer(end[0], end[2], MAX), looks ? BEYOND : 2);
            due.is("kind " + end[0] + " b MIN", x.layer(end[0], end[2], MIN), looks ? BEYOND : 3);
        }
        TapeBench x = new TapeBench();
        due.is("FILL b 0", x.layer(2, 0, 0), 0);
        due.is("FILL b 9", x.layer(2, 0, 9), 1);
        due.is("FILL b -1", x.layer(2, 0, -1), BEYOND);
        due.is("FILL b 10", x.layer(2, 0, 10), BEYOND);
        due.is("CUT b 1", x.layer(5, 0, 1), 2);
        due.is("CUT b 120", x.layer(5, 0, 120), 3);
        due.is("CUT b 0", x.layer(5, 0, 0), BEYOND);
        due.is("CUT b 121", x.layer(5, 0, 121), BEYOND);
        due.is("kind 7", x.layer(7, 1, 1), BEYOND);
        due.is("kind -1", x.layer(-1, 1, 1), BEYOND);
        due.is("kind MAX", x.layer(MAX, 1, 1), BEYOND);
        for (int place = 4; place < 8; place++) {
            due.is("layer " + place, x.layer(0, 100, 0), place);
            due.is("it is ON", x.told(place, 3), 1);
        }
        due.is("a ninth", x.layer(0, 100, 0), FULL);
        due.is("a ninth that can't be", x.layer(0, 401, 0), BEYOND);
        due.is("drop", x.drop(0), 7);
        due.is("an eighth again", x.layer(0, 100, 0), 7);
    }

    private static void turnOn() {
        due.part("Promise 13");
        TapeBench x = with(5);
        due.is("turnOn(0, true)", x.turnOn(0, true), BEYOND);
        x.layer(0, 200, 0);
        x.layer(0, 300, 0);
        isOutput(x, 0, 30);
        due.is("turnOn(0, true)", x.turnOn(0, true), 0);
        due.is("turnOn(0, false)", x.turnOn(0, false), 1);
        due.is("turnOn(0, false)", x.turnOn(0, false), 0);
        isOutput(x, 0, 15);
        due.is("told(0, 3)", x.told(0, 3), 0);
        due.is("told(1, 3)", x.told(1, 3), 1);
        due.is("told(0, 1)", x.told(0, 1), 200);
        due.is("turnOn(0, true)", x.turnOn(0, true), 1);
        isOutput(x, 0, 30);
        due.is("turnOn(2, true)", x.turnOn(2, true), BEYOND);
        due.is("turnOn(-1, true)", x.turnOn(-1, true), BEYOND);
        due.is("turnOn(MAX, false)", x.turnOn(MAX, false), BEYOND);
    }

    private static void order(TapeBench x, int... gains) {
        due.is("count(0)", x.count(0), gains.length);
        for (int place = 0; place < gains.length; place++) {
            due.is("told(" + place + ", 1)", x.told(place, 1), gains[place]);
        }
    }

    private static void move() {
        due.part("Promise 14");
        TapeBench x = new TapeBench();
        for (int a = 0; a < 5; a++) {
            x.layer(0, a, 0);
        }
        due.is("move(1, 3)", x.move(1, 3), 1);
        order(x, 0, 2, 3, 1, 4);
        due.is("move(4, 0)", x.move(4, 0), 1);
        order(x, 4, 0, 2, 3, 1);
        due.is("move(0, 4)", x.move(0, 4), 1);
        order(x, 0, 2, 3, 1, 4);
        due.is("move(2, 2)", x.move(2, 2), 1);
        order(x, 0, 2, 3, 1, 4);
        x.turnOn(1, false);
        due.is("move(1, 0)", x.move(1, 0), 1);
        due.is("OFF comes along", x.told(0, 3), 0);
        due.is("ON comes along", x.told(1, 3), 1);
        due.is("move(0, 5)", x.move(0, 5), BEYOND);
        due.is("move(5, 0)", x.move(5, 0), BEYOND);
        due.is("move(-1, 0)", x.move(-1, 0), BEYOND);
        due.is("move(0, -1)", x.move(0, -1), BEYOND);
        order(x, 2, 0, 3, 1, 4);
        TapeBench full = new TapeBench();
        for (int a = 0; a < 8; a++) {
            full.layer(0, a, 0);
        }
        due.is("move(0, 7)", full.move(0, 7), 1);
        due.is("move(0, 8)", full.move(0, 8), BEYOND);
        order(full, 1, 2, 3, 4, 5, 6, 7, 0);
        due.is("the order counts", outOfTwo(0), 20000 / 4);
        due.is("the other order", outOfTwo(1), 10000 / 2);
    }

    /** 9000 with 300 and 50 in a hundred: the first is cut to 10000 if it comes first. */
    private static long outOfTwo(int moved) {
        TapeBench x = with(moved == 0 ? 9000 : 3334);
        x.layer(0, 300, 0);
        x.layer(0, 50, 0);
        if (moved == 1) {
            x.move(1, 0);
            due.is("1667 times 3", x.out(0, 0), 5001);
            x.move(0, 1);
        }
        return x.out(0, 0);
    }

    private static void drop() {
        due.part("Promise 15");
        TapeBench x = new TapeBench();
        due.is("drop(0)", x.drop(0), BEYOND);
        for (int a = 0; a < 4; a++) {
            x.layer(0, a, 0);
        }
        due.is("drop(1)", x.drop(1), 3);
        order(x, 0, 2, 3);
        due.is("drop(2)", x.drop(2), 2);
        order(x, 0, 2);
        due.is("drop(2)", x.drop(2), BEYOND);
        due.is("drop(-1)", x.drop(-1), BEYOND);
        due.is("drop(0)", x.drop(0), 1);
        due.is("drop(0)", x.drop(0), 0);
        order(x);
    }

    private static void told() {
        due.part("Promise 16");
        TapeBench x = new TapeBench();
        x.layer(2, 3, 7);
        x.layer(5, 100, 20);
        x.layer(0, -50, 9);
        x.layer(6, 5, -9);
        int[][] want = {{2, 3, 7, 1}, {5, 100, 20, 1}, {0, -50, 0, 1}, {6, 5, 0, 0}};
        x.turnOn(3, false);
        for (int place = 0; place < 4; place++) {
            for (int what = 0; what < 4; what++) {
                due.is("told(" + place + ", " + what + ")", x.told(place, what), want[place][what]);
            }
            due.is("told what 4", x.told(place, 4), BEYOND);
            due.is("told what -1", x.told(place, -1), BEYOND);
        }
        due.is("told(4, 0)", x.told(4, 0), BEYOND);
        due.is("told(-1, 0)", x.told(-1, 0), BEYOND);
    }

    private static void as() {
        due.part("Promise 17");
        TapeBench x = new TapeBench();
        int[] above = {-2, -2, 1, 1, -2, 4, -2};
        for (int kind = 0; kind < 7; kind++) {
            due.is("layer", x.layer(kind, 1, 1), kind);
        }
        for (int place = 0; place < 7; place++) {
            due.is("as any", x.as(place, -1), place);
            for (int kind = 0; kind < 7; kind++) {
                boolean fits = kind == place || kind == above[place];
                due.is("as(" + place + ", " + kind + ")", x.as(place, kind), fits ? place : KIND);
            }
            due.is("as 7", x.as(place, 7), BEYOND);
            due.is("as -2", x.as(place, -2), BEYOND);
        }
        due.is("as(7, 0)", x.as(7, 0), BEYOND);
        due.is("as(-1, -1)", x.as(-1, -1), BEYOND);
        due.is("as(MIN, MIN)", x.as(MIN, MIN), BEYOND);
    }

    private static void size() {
        due.part("Promise 18");
        TapeBench x = with(-1, 1, -1, 1, -1, 1);
        due.is("size(0)", x.size(0), 6);
        x.layer(5, 4, 9);
        due.is("after a CUT", x.size(0), 4);
        x.layer(4, 30, 0);
        due.is("after a WARP", x.size(0), 31);
        due.is("size(1)", x.size(1), 0);
        due.is("size(4)", x.size(4), BEYOND);
        due.is("size(-1)", x.size(-1), BEYOND);
    }

    private static void out() {
        due.part("Promise 19");
        TapeBench x = with(4, L, -4);
        x.layer(0, 200, 0);
        isOutput(x, 0, 8, L, -8);
        isPass(x, 0, 4, L, -4);
        due.is("out(0, -1)", x.out(0, -1), BEYOND);
        due.is("out(0, MAX)", x.out(0, MAX), BEYOND);
        due.is("out(4, 0)", x.out(4, 0), BEYOND);
        due.is("out(-1, 0)", x.out(-1, 0), BEYOND);
        due.is("out(1, 0)", x.out(1, 0), BEYOND);
    }

    private static void gain() {
        due.part("GAIN");
        TapeBench x = with(3, -3, L, 10000, -10000, 2500, -2501);
        x.layer(0, -50, 0);
        isOutput(x, 0, -1, 1, L, -5000, 5000, -1250, 1250);
        x.layer(0, -400, 0);
        isOutput(x, 0, 4, -4, L, 10000, -10000, 5000, -5000);
        x.drop(0);
        isOutput(x, 0, -12, 12, L, -10000, 10000, -10000, 10000);
        x.layer(0, 0, 0);
        isOutput(x, 0, 0, 0, L, 0, 0, 0, 0);
    }

    private static void mend() {
        due.part("MEND");
        TapeBench x = with(0, 10, 0, 5, 0, L, 90, 0);
        x.layer(1, 14, 0);
        // Bends: 20, -15, 10, then beside a LOST one; both CLICKS by the row as it came.
        isOutput(x, 0, 0, 0, 7, 5, 0, L, 90, 0);
        x.layer(1, 15, 0);
        x.drop(0);
        isOutput(x, 0, 0, 0, 0, 5, 0, L, 90, 0);
        TapeBench y = with(-3, 100, -4, -4);
        y.layer(1, 1, 0);
        // Half of -7 is cut towards 0.
        isOutput(y, 0, -3, -3, 48, -4);
        TapeBench z = with(10000, -10000, 10000);
        z.layer(1, 40000, 0);
        isOutput(z, 0, 10000, -10000, 10000);
        z.layer(1, 39999, 0);
        isOutput(z, 0, 10000, 10000, 10000);
        TapeBench ends = with(900, 0);
        ends.layer(1, 1, 0);
        isOutput(ends, 0, 900, 0);
    }

    private static void fill() {
        due.part("FILL");
        TapeBench x = with(1, 20, 3, L, 50, L, 7, L);
        set(x, 1, 9, 1, 20, 3, 44, 50, L, 7);
        x.layer(2, 1, 9);
        // ALIGNED by 1; what the pass has LOST, or has not, stays LOST.
        isOutput(x, 0, 1, 20, 3, 44, 50, L, 7, L);
        x.layer(2, 1, 0);
        x.turnOn(0, false);
        // By 0 alone it is ALIGNED by 0: each from the same place.
        isOutput(x, 0, 1, 20, 3, 3, 50, 50, 7, 7);
        TapeBench ends = with(L, 20, 3, 40, 5, L);
        set(ends, 1, 9, 20, 3, 40, 5, 8);
        ends.layer(2, 1, 9);
        isOutput(ends, 0, 9, 20, 3, 40, 5, 8);
        TapeBench few = with(1, 2, 3, L, L);
        set(few, 1, 1, 2, 3, 4, 5);
        few.layer(2, 1, 2);
        isOutput(few, 0, 1, 2, 3, L, L);
        few.layer(2, 3, 9);
        isOutput(few, 0, 1, 2, 3, L, L);
        TapeBench asItIs = with(1, 2, 3, 4, L);
        set(asItIs, 1, 1, 2, 3, 4, 5);
        asItIs.layer(0, 100, 0);
        asItIs.layer(2, 1, 0);
        asItIs.layer(0, 200, 0);
        isOutput(asItIs, 0, 2, 4, 6, 8, 10);
        asItIs.move(2, 0);
        // The row is doubled by now, the pass is not.
        isOutput(asItIs, 0, 2, 4, 6, 8, 5);
        TapeBench itself = with(1, 2, 3, 4, L);
        itself.layer(2, 0, 9);
        isOutput(itself, 0, 1, 2, 3, 4, L);
        // The row as it came to the layer is ALIGNED, not the pass: CUT moves it by 2.
        TapeBench moved = with(90, 80, 1, 20, 3, 40, L, 6);
        set(moved, 1, 1, 20, 3, 40, 55, 6);
        moved.layer(5, 0, 2);
        moved.layer(2, 1, 0);
        isOutput(moved, 0, 1, 20, 3, 40, 55, 6);
    }

    private static void bridge() {
        due.part("BRIDGE");
        TapeBench x = with(L, 0, L, L, 5, L, -2, L, L, L, 6, L);
        x.layer(3, 2, 0);
        // 5/3 and 10/3; 5 and -7/2 cut down is 5 - 4; a run of three is too long; ends stay.
        isOutput(x, 0, L, 0, 1, 3, 5, 1, -2, L, L, L, 6, L);
        x.layer(3, 3, 0);
        isOutput(x, 0, L, 0, 1, 3, 5, 1, -2, 0, 2, 4, 6, L);
        x.drop(1);
        x.turnOn(0, false);
        x.layer(3, 1, 0);
        isOutput(x, 0, L, 0, L, L, 5, 1, -2, L, L, L, 6, L);
        TapeBench down = with(3, L, L, -4);
        down.layer(3, 20, 0);
        // -7/3 cut down is -3, -14/3 is -5.
        isOutput(down, 0, 3, 0, -2, -4);
        TapeBench all = with(L, L, L);
        all.layer(3, 20, 0);
        isOutput(all, 0, L, L, L);
        TapeBench wide = new TapeBench();
        wide.pass(0, 22);
        wide.put(0, 0, -10000);
        wide.put(0, 21, 10000);
        wide.lose(0, 1, 20);
        wide.layer(3, 20, 0);
        due.is("the widest", wide.out(0, 20), 9047);
        due.is("the widest", wide.out(0, 1), -9048);
        wide.layer(3, 19, 0);
        wide.drop(0);
        due.is("too long", wide.out(0, 1), LOST);
    }

    private static void warp() {
        due.part("WARP");
        TapeBench x = with(9, -4, 4, 3, -2, -9, 7, 500, -3, 1, 8);
        x.layer(4, 2, 0);
        // TURNS 2, 6, 9: times at 2, 4, 6, 7 1/2, 9.
        isOutput(x, 0, 4, -2, 7, 248, 1);
        x.layer(4, 1, 0);
        x.drop(0);
        isOutput(x, 0, 4, 7, 1);
        x.layer(4, 4, 0);
        x.drop(0);
        // 2, 3, 4, 5, 6, then 6 3/4: 376 3/4, 7 1/2: 248 1/2, 8 1/4: -2.
        isOutput(x, 0, 4, 3, -2, -9, 7, 376, 248, -2, 1);
        x.lose(0, 7, 1);
        isOutput(x, 0, 4, 3, -2, -9, 7, L, L, -2, 1);
        TapeBench one = with(-5, 5, 6, 7);
        one.layer(4, 3, 0);
        isOutput(one, 0, -5, 5, 6, 7);
        TapeBench two = with(-5, 5, -6, 7, 8);
        two.layer(4, 3, 0);
        // TURNS 1 and 3: at 1, 1 2/3: 5 - 22/3, 2 1/3: -6 + 13/3, 3.
        isOutput(two, 0, 5, -3, -2, 7);
        TapeBench lost = with(-5, 5, L, -6, 7);
        lost.layer(4, 3, 0);
        // TURNS 1 and 4: all at whole places.
        isOutput(lost, 0, 5, L, -6, 7);
        TapeBench wide = new TapeBench();
        wide.pass(0, 120);
        for (int i = 0; i < 120; i += 2) {
            wide.put(0, i, -1);
        }
        wide.layer(4, 30, 0);
        due.is("60 TURNS by 30 are too many", wide.size(0), 120);
        wide.layer(4, 2, 0);
        wide.drop(0);
        due.is("60 TURNS by 2", wide.size(0), 119);
        wide.layer(4, 1, 0);
        wide.drop(0);
        due.is("60 TURNS by 1", wide.size(0), 60);
    }

    private static void cut() {
        due.part("CUT");
        TapeBench x = with(0, 1, L, 3, 4, 5);
        x.layer(5, 1, 3);
        isOutput(x, 0, 0, 4, 5);
        x.layer(5, 2, 120);
        isOutput(x, 0, 0, 4);
        x.layer(5, 119, 120);
        isOutput(x, 0, 0, 4);
        x.layer(5, 0, 1);
        isOutput(x, 0, 4);
        x.layer(5, 0, 120);
        isOutput(x, 0);
    }

    private static void fade() {
        due.part("FADE");
        TapeBench x = with(100, -100, L, 100, 100);
        x.layer(6, 4, 0);
        isOutput(x, 0, 20, -40, L, 80, 100);
        x.layer(6, 2, 0);
        x.drop(0);
        isOutput(x, 0, 33, -66, L, 100, 100);
        x.layer(6, 120, 0);
        x.drop(0);
        isOutput(x, 0, 0, -1, L, 3, 4);
    }

    private static void heard() {
        due.part("Promise 20");
        TapeBench x = with(5, -9, L, 8);
        due.is("heard(0, 0)", x.heard(0, 0), 9);
        due.is("heard(0, 1)", x.heard(0, 1), 1);
        due.is("heard(0, 2)", x.heard(0, 2), 0);
        x.layer(3, 1, 0);
        due.is("one was LOST", x.heard(0, 2), 1);
        due.is("none is LOST", x.heard(0, 1), 0);
        x.layer(5, 0, 1);
        due.is("-9 -1 8", x.heard(0, 2), 3);
        due.is("greatest", x.heard(0, 0), 9);
        due.is("heard(1, 0)", x.heard(1, 0), 0);
        due.is("heard(1, 1)", x.heard(1, 1), 0);
        due.is("heard(1, 2)", x.heard(1, 2), 0);
        due.is("heard(0, 3)", x.heard(0, 3), BEYOND);
        due.is("heard(0, -1)", x.heard(0, -1), BEYOND);
        due.is("heard(4, 0)", x.heard(4, 0), BEYOND);
        due.is("heard(-1, 0)", x.heard(-1, 0), BEYOND);
        TapeBench all = with(L, L);
        due.is("all are LOST", all.heard(0, 0), 0);
        due.is("LOST in both", all.heard(0, 2), 0);
        TapeBench lost = with(L, 3, L);
        lost.layer(5, 0, 1);
        due.is("3 L beside L 3", lost.heard(0, 2), 2);
        TapeBench longer = with(-1, 1, L, -1, 1);
        longer.layer(4, 6, 0);
        // 1 L L L L -1 1: at 1, 1 1/2, 2, 2 1/2, 3, 3 1/2, 4.
        isOutput(longer, 0, 1, L, L, L, -1, 0, 1);
        due.is("also where the pass has none", longer.heard(0, 2), 6);
        TapeBench lostBehind = with(-1, 1, -1, L, -1, 1);
        lostBehind.layer(4, 20, 0);
        // 21 samples, of which only that at 4 is as in the pass: -1, as 1 4/5 is cut down to it.
        due.is("LOST where the pass has none", lostBehind.heard(0, 2), 20);
    }

    private static void power() {
        due.part("Promise 21");
        TapeBench x = with(3, -4, L);
        due.is("power(0)", x.power(0), 25);
        x.layer(0, 200, 0);
        due.is("power(0)", x.power(0), 100);
        due.is("power(1)", x.power(1), 0);
        due.is("power(4)", x.power(4), BEYOND);
        due.is("power(-1)", x.power(-1), BEYOND);
        TapeBench loud = new TapeBench();
        loud.pass(0, 120);
        for (int i = 0; i < 120; i++) {
            loud.put(0, i, i % 2 == 0 ? 10000 : -10000);
        }
        due.is("more than an int holds", loud.power(0), 12000000000L);
    }

    private static void bake() {
        due.part("Promise 22");
        TapeBench x = with(1, L, 3);
        set(x, 1, 7, 7, 7, 7, 7);
        x.layer(0, 300, 0);
        due.is("bake(0, 1)", x.bake(0, 1), 3);
        isPass(x, 1, 3, L, 9);
        isPass(x, 0, 1, L, 3);
        due.is("bake(0, 0)", x.bake(0, 0), 3);
        isPass(x, 0, 3, L, 9);
        due.is("bake(2, 1)", x.bake(2, 1), 0);
        isPass(x, 1);
        due.is("bake(4, 0)", x.bake(4, 0), BEYOND);
        due.is("bake(-1, 0)", x.bake(-1, 0), BEYOND);
        due.is("bake(0, 4)", x.bake(0, 4), BEYOND);
        due.is("bake(0, -1)", x.bake(0, -1), BEYOND);
        due.is("the layers stay", x.count(1), 1);
        isPass(x, 0, 3, L, 9);
    }

    private static void align() {
        due.part("Promise 23");
        TapeBench x = with(1, 2, 3, 4, 9, 9);
        set(x, 1, 0, 0, 1, 2, 3, 4);
        due.is("align(0, 1, 9)", x.align(0, 1, 9), 2);
        due.is("align(1, 0, 9)", x.align(1, 0, 9), -2);
        due.is("align(0, 1, 2)", x.align(0, 1, 2), 2);
        due.is("align(0, 1, 1)", x.align(0, 1, 1), 1);
        due.is("align(0, 1, 0)", x.align(0, 1, 0), 0);
        due.is("align(0, 1, 10)", x.align(0, 1, 10), BEYOND);
        due.is("align(0, 1, -1)", x.align(0, 1, -1), BEYOND);
        due.is("align(4, 1, 0)", x.align(4, 1, 0), BEYOND);
        due.is("align(0, -1, 0)", x.align(0, -1, 0), BEYOND);
        due.is("align(0, 2, 9)", x.align(0, 2, 9), NONE);
        x.lose(0, 3, 1);
        // By 2 they are alike at three places; by 1 they differ by 8 at four, by 0 by 16 at five.
        due.is("three places are too few", x.align(0, 1, 9), 1);
        TapeBench three = with(1, 2, 3);
        due.is("three samples", three.align(0, 0, 9), NONE);
        three = with(1, 2, L, 3, 4);
        due.is("four of five", three.align(0, 0, 9), 0);
        TapeBench flat = with(0, 0, 0, 0, 0, 0, 0, 0);
        due.is("of several the nearest to 0", flat.align(0, 0, 9), 0);
        TapeBench below = with(0, 5, 0, 5, 0, 5, 0, 5, 0);
        set(below, 1, 5, 0, 5, 0, 5, 0, 5, 0, 5);
        due.is("of two the one below 0", below.align(0, 1, 9), -1);
        due.is("of two the one below 0", below.align(1, 0, 9), -1);
        TapeBench rest = with(0, 3, 2, 5, 5);
        set(rest, 1, 2, 3, 3, 5, 7);
        due.is("sum at 0", rest.differ(0, 1, 0, false), 5);
        due.is("places at 0", rest.differ(0, 1, 0, true), 5);
        due.is("sum at -1", rest.differ(0, 1, -1, false), 4);
        due.is("places at -1", rest.differ(0, 1, -1, true), 4);
        due.is("alike by number, so the nearest", rest.align(0, 1, 1), 0);
        rest.put(1, 0, 3);
        due.is("sum at 0", rest.differ(0, 1, 0, false), 6);
        due.is("sum at -1", rest.differ(0, 1, -1, false), 3);
        due.is("less by number", rest.align(0, 1, 1), -1);
        // 7 by 5 at 0, 6 by 4 at -1, 5 by 4 at 1: their whole parts are alike, their rests tell.
        TapeBench rests = with(0, 0, 0, 0, 0);
        set(rests, 1, 2, 1, 1, 2, 1);
        due.is("sum at 0", rests.differ(0, 1, 0, false), 7);
        due.is("sum at -1", rests.differ(0, 1, -1, false), 6);
        due.is("sum at 1", rests.differ(0, 1, 1, false), 5);
        due.is("5/4 is less than 7/5 and 6/4", rests.align(0, 1, 1), 1);
    }

    private static void differ() {
        due.part("Promise 24");
        TapeBench x = with(10, L, -30, 40);
        set(x, 1, 1, 2, 3, L, 5, 6);
        due.is("differ(0, 1, 0, false)", x.differ(0, 1, 0, false), 42);
        due.is("differ(0, 1, 0, true)", x.differ(0, 1, 0, true), 2);
        due.is("differ(0, 1, 2, false)", x.differ(0, 1, 2, false), 76);
        due.is("differ(0, 1, 2, true)", x.differ(0, 1, 2, true), 3);
        due.is("differ(0, 1, -3, false)", x.differ(0, 1, -3, false), 39);
        due.is("differ(0, 1, -3, true)", x.differ(0, 1, -3, true), 1);
        due.is("differ(0, 1, 9, false)", x.differ(0, 1, 9, false), 0);
        due.is("differ(0, 1, -9, true)", x.differ(0, 1, -9, true), 0);
        due.is("differ(0, 2, 0, true)", x.differ(0, 2, 0, true), 0);
        due.is("differ(0, 1, 10, false)", x.differ(0, 1, 10, false), BEYOND);
        due.is("differ(0, 1, -10, false)", x.differ(0, 1, -10, false), BEYOND);
        due.is("differ(0, 1, MIN, true)", x.differ(0, 1, MIN, true), BEYOND);
        due.is("differ(4, 1, 0, false)", x.differ(4, 1, 0, false), BEYOND);
        due.is("differ(0, 4, 0, true)", x.differ(0, 4, 0, true), BEYOND);
        due.is("differ(-1, 0, 0, true)", x.differ(-1, 0, 0, true), BEYOND);
    }

    private static void seam() {
        due.part("Promise 25");
        TapeBench x = with(0, 10, L, 30, 40, 50, 60);
        set(x, 1, 5, 12, 0, 28, L, 50);
        due.is("seam(0, 1, 0, 4)", x.seam(0, 1, 0, 4), 1);
        due.is("seam(1, 0, 0, 4)", x.seam(1, 0, 0, 4), 1);
        due.is("seam(0, 1, 2, 4)", x.seam(0, 1, 2, 4), 3);
        due.is("seam(0, 1, 0, 5)", x.seam(0, 1, 0, 5), 5);
        due.is("seam(0, 1, 0, MAX)", x.seam(0, 1, 0, MAX), 5);
        due.is("seam(0, 1, 0, 0)", x.seam(0, 1, 0, 0), 0);
        due.is("seam(0, 1, 2, 2)", x.seam(0, 1, 2, 2), NONE);
        due.is("seam(0, 1, 4, 4)", x.seam(0, 1, 4, 4), NONE);
        due.is("seam(0, 1, 6, 9)", x.seam(0, 1, 6, 9), NONE);
        due.is("seam(1, 0, 6, 9)", x.seam(1, 0, 6, 9), NONE);
        due.is("seam(0, 1, MAX, MAX)", x.seam(0, 1, MAX, MAX), NONE);
        due.is("seam(0, 2, 0, 9)", x.seam(0, 2, 0, 9), NONE);
        due.is("seam(0, 1, -1, 4)", x.seam(0, 1, -1, 4), BEYOND);
        due.is("seam(0, 1, 3, 2)", x.seam(0, 1, 3, 2), BEYOND);
        due.is("seam(4, 1, 0, 2)", x.seam(4, 1, 0, 2), BEYOND);
        due.is("seam(0, -1, 0, 2)", x.seam(0, -1, 0, 2), BEYOND);
    }

    private static void join() {
        due.part("Promise 26");
        TapeBench x = with(1, L, 3);
        set(x, 1, 10, 20, 30, L, 50);
        due.is("join(0, 1, 2, 2)", x.join(0, 1, 2, 2), 5);
        isPass(x, 2, 1, L, 30, L, 50);
        due.is("join(0, 1, 0, 2)", x.join(0, 1, 0, 2), 5);
        isPass(x, 2, 10, 20, 30, L, 50);
        due.is("join(0, 1, 3, 2)", x.join(0, 1, 3, 2), 5);
        isPass(x, 2, 1, L, 3, L, 50);
        due.is("join(1, 0, 4, 2)", x.join(1, 0, 4, 2), 4);
        isPass(x, 2, 10, 20, 30, L);
        due.is("join(1, 0, 1, 1)", x.join(1, 0, 1, 1), 3);
        isPass(x, 1, 10, L, 3);
        set(x, 1, 10, 20, 30, 40, 50);
        due.is("join(0, 1, 1, 1)", x.join(0, 1, 1, 1), 5);
        isPass(x, 1, 1, 20, 30, 40, 50);
        due.is("join(1, 1, 2, 1)", x.join(1, 1, 2, 1), 5);
        isPass(x, 1, 1, 20, 30, 40, 50);
        due.is("join(3, 3, 0, 0)", x.join(3, 3, 0, 3), 0);
        due.is("join(0, 1, 4, 2)", x.join(0, 1, 4, 2), BEYOND);
        due.is("join(0, 1, -1, 2)", x.join(0, 1, -1, 2), BEYOND);
        due.is("join(0, 1, MAX, 2)", x.join(0, 1, MAX, 2), BEYOND);
        due.is("join(4, 1, 0, 2)", x.join(4, 1, 0, 2), BEYOND);
        due.is("join(0, 4, 0, 2)", x.join(0, 4, 0, 2), BEYOND);
        due.is("join(0, 1, 0, 4)", x.join(0, 1, 0, 4), BEYOND);
        due.is("join(0, 1, 0, -1)", x.join(0, 1, 0, -1), BEYOND);
        isPass(x, 2, 10, 20, 30, L);
    }

    private static void mark() {
        due.part("Promise 27");
        TapeBench x = with(1, 2, L);
        due.is("mark(0, 0, 0)", x.mark(0, 0, 0), 1);
        due.is("mark(5, 0, 2)", x.mark(5, 0, 2), 1);
        due.is("moment(0)", x.moment(0), 0);
        due.is("moment(5)", x.moment(5), 2);
        due.is("mark(0, 0, 1)", x.mark(0, 0, 1), 1);
        due.is("moment(0)", x.moment(0), 1);
        due.is("mark(0, 0, 3)", x.mark(0, 0, 3), BEYOND);
        due.is("mark(0, 0, -2)", x.mark(0, 0, -2), BEYOND);
        due.is("mark(0, 0, MIN)", x.mark(0, 0, MIN), BEYOND);
        due.is("mark(0, 1, 0)", x.mark(0, 1, 0), BEYOND);
        due.is("mark(0, 4, -1)", x.mark(0, 4, -1), BEYOND);
        due.is("mark(0, -1, 0)", x.mark(0, -1, 0), BEYOND);
        due.is("mark(6, 0, 0)", x.mark(6, 0, 0), BEYOND);
        due.is("mark(-1, 0, -1)", x.mark(-1, 0, -1), BEYOND);
        due.is("moment(0)", x.moment(0), 1);
        due.is("mark(0, 1, -1)", x.mark(0, 1, -1), 1);
        due.is("moment(0)", x.moment(0), NONE);
        due.is("mark(1, 0, -1)", x.mark(1, 0, -1), 1);
        due.is("moment(1)", x.moment(1), NONE);
    }

    private static void moments(TapeBench x, int samples, long... want) {
        for (int i = 0; i < samples; i++) {
            due.is("mark(3, 0, " + i + ")", x.mark(3, 0, i), 1);
            due.is("moment of " + i, x.moment(3), want[i]);
        }
    }

    private static void moment() {
        due.part("Promise 28");
        TapeBench x = with(9, -4, 4, 3, -2, -9, 7, 500, -3, 1, 8);
        due.is("moment(6)", x.moment(6), BEYOND);
        due.is("moment(-1)", x.moment(-1), BEYOND);
        due.is("moment(0)", x.moment(0), NONE);
        x.layer(4, 2, 0);
        // TURNS 2, 6, 9.
        moments(x, 11, LOST, LOST, 0, 0, 1, 1, 2, 2, 3, 4, LOST);
        x.layer(5, 1, 2);
        moments(x, 11, LOST, LOST, 0, 0, LOST, LOST, LOST, LOST, 1, 2, LOST);
        x.turnOn(0, false);
        moments(x, 11, 0, LOST, LOST, 1, 2, 3, 4, 5, 6, 7, 8);
        x.turnOn(1, false);
        moments(x, 11, 0, 1, 2, 3, 4, 5, 6, 7, 8, 9, 10);
        x.layer(0, 0, 0);
        x.layer(6, 9, 0);
        x.layer(1, 5, 0);
        x.layer(3, 5, 0);
        x.layer(2, 1, 5);
        moments(x, 11, 0, 1, 2, 3, 4, 5, 6, 7, 8, 9, 10);
        due.is("mark(3, 0, 10)", x.mark(3, 0, 10), 1);
        x.pass(0, 10);
        due.is("its pass has no such sample", x.moment(3), NONE);
        x.pass(0, 11);
        due.is("it has again", x.moment(3), 10);
        TapeBench one = with(5, -5, 5, 6);
        one.layer(4, 3, 0);
        moments(one, 4, 0, 1, 2, 3);
        // GAIN by -100 ahead of the WARP: its TURNS are those of the row as it comes to it.
        TapeBench other = with(-1, 1, -1, 1, -1);
        other.layer(0, -100, 0);
        other.layer(4, 5, 0);
        moments(other, 5, LOST, LOST, 0, 2, 5);
        TapeBench wide = new TapeBench();
        wide.pass(0, 120);
        for (int i = 0; i < 120; i += 2) {
            wide.put(0, i, -1);
        }
        wide.layer(4, 30, 0);
        wide.mark(0, 0, 7);
        due.is("T(3)", wide.moment(0), 90);
        wide.mark(0, 0, 8);
        due.is("half way to T(4)", wide.moment(0), 105);
        wide.mark(0, 0, 9);
        due.is("not in the new row", wide.moment(0), LOST);
        wide.layer(4, 1, 0);
        wide.drop(0);
        wide.mark(0, 0, 119);
        due.is("at the last TURN", wide.moment(0), 59);
        TapeBench end = with(1, 2, 3, 4);
        end.layer(5, 2, 120);
        moments(end, 4, 0, 1, LOST, LOST);
    }

    private static void undo() {
        due.part("Promise 29");
        TapeBench x = new TapeBench();
        due.is("undo()", x.undo(), NONE);
        x.pass(0, 30);
        for (int i = 0; i < 25; i++) {
            x.put(0, i, i + 1);
        }
        for (int k = 19; k >= 0; k--) {
            due.is("undo()", x.undo(), k);
            due.is("undone", x.sample(0, 5 + k), 0);
            due.is("not undone", x.sample(0, 4 + k), 5 + k);
        }
        due.is("undo()", x.undo(), NONE);
        due.is("it stays", x.sample(0, 4), 5);
        x.put(0, 0, 99);
        due.is("undo()", x.undo(), 0);
        due.is("undone", x.sample(0, 0), 1);
        TapeBench nothing = with(3);
        nothing.undo();
        nothing.undo();
        due.is("undo()", nothing.undo(), NONE);
        nothing.pass(0, 1);
        nothing.layer(0, 1, 0);
        nothing.turnOn(0, true);
        nothing.lose(0, 0, 0);
        nothing.move(0, 0);
        nothing.mark(0, 0, -1);
        nothing.put(0, 0, 0);
        due.is("such as changed nothing are kept", nothing.undo(), 6);
        TapeBench not = new TapeBench();
        not.pass(0, 121);
        not.sheet(0, 8, 2);
        not.write(0, 0, 7);
        not.sheet(1, 8, 2);
        not.copy(0, 0, 1, 0, 1);
        not.size(0);
        not.count(0);
        due.is("what answers a finding or is no such act", not.undo(), NONE);
        not.lay(0, 1);
        not.sheet(1, 0, 0);
        due.is("undo()", not.undo(), 0);
        due.is("the sheet is not brought back", not.lay(0, 1), MISSING);
        due.is("the other neither", not.lay(0, 0), 2);
        due.is("sample(0, 0)", not.sample(0, 0), 7);
    }

    private static void undoOfEachAct() {
        due.part("Promise 29, each act");
        TapeBench x = with(1, L, 3);
        set(x, 1, 4, 5);
        x.sheet(0, 16, 1);
        x.layer(0, 200, 0);
        x.layer(6, 3, 0);
        x.mark(0, 0, 2);
        for (int act = 0; act < 11; act++) {
            due.holds("act " + act, act(x, act) > -100000);
            due.holds("undo of act " + act, x.undo() >= 0);
            isPass(x, 0, 1, L, 3);
            isPass(x, 1, 4, 5);
            isPass(x, 2);
            order(x, 200, 3);
            due.is("ON", x.count(1), 2);
            due.is("marks", x.count(2), 1);
            due.is("moment", x.moment(0), 2);
        }
    }

    private static int act(TapeBench x, int act) {
        switch (act) {
            case 0: return x.pass(0, 7);
            case 1: return x.put(0, 1, 5);
            case 2: return x.lose(0, 0, 3);
            case 3: return x.lay(1, 0);
            case 4: return x.layer(5, 0, 1);
            case 5: return x.turnOn(0, false);
            case 6: return x.move(0, 1);
            case 7: return x.drop(0);
            case 8: return x.bake(0, 1);
            case 9: return x.join(0, 1, 1, 2);
            default: return x.mark(0, 1, -1);
        }
    }

    private static void count() {
        due.part("Promise 30");
        TapeBench x = with(1, L);
        x.layer(0, 1, 0);
        x.layer(0, 2, 0);
        x.turnOn(1, false);
        x.mark(1, 0, 0);
        x.mark(2, 0, 1);
        x.mark(3, 0, 1);
        x.mark(3, 0, -1);
        due.is("count(0)", x.count(0), 2);
        due.is("count(1)", x.count(1), 1);
        due.is("count(2)", x.count(2), 2);
        due.is("count(3)", x.count(3), 0);
        due.is("count(4)", x.count(4), BEYOND);
        due.is("count(-1)", x.count(-1), BEYOND);
        due.is("count(3)", x.count(3), 2);
        x.sample(0, 1);
        x.out(0, 1);
        x.power(9);
        x.turn(0, 0);
        x.as(0, 5);
        x.lay(0, 0);
        x.sheet(0, 8, -1);
        due.is("count(3)", x.count(3), 9);
        x.pass(0, 0);
        due.is("a mark whose sample is gone is somewhere still", x.count(2), 2);
        x.undo();
        due.is("findings are not undone", x.count(3), 9);
    }

    private static void everyFindingCounts() {
        due.part("Promise 30, each finding");
        TapeBench x = with(1, L, 3);
        x.sheet(0, 8, 1);
        x.sheet(1, 16, 1);
        for (int k = 0; k < 8; k++) {
            x.layer(0, 100, 0);
        }
        long[] answers = {
            x.pass(4, 0), x.put(0, 3, 0), x.lose(0, 3, 1), x.sample(0, 3), x.sample(0, 1), x.about(4, 0),
            x.about(0, 4), x.turn(4, 0), x.turn(0, 0), x.sheet(4, 8, 1), x.sheet(0, 8, -1), x.sheet(0, 8, 121),
            x.write(4, 0, 0), x.write(2, 0, 0), x.write(0, 1, 0), x.copy(4, 0, 0, 0, 0), x.copy(0, 0, 2, 0, 0),
            x.copy(0, 0, 1, 0, 0), x.copy(0, 0, 0, 0, 2), x.lay(0, 4), x.lay(0, 2), x.layer(7, 0, 0),
            x.layer(0, 0, 0), x.turnOn(8, true), x.move(8, 0), x.drop(8), x.told(8, 0), x.told(0, 4),
            x.as(8, 0), x.as(0, 1), x.size(4), x.out(4, 0), x.out(0, 3), x.out(0, 1), x.heard(4, 0),
            x.heard(0, 3), x.power(4), x.bake(4, 0), x.align(0, 4, 0), x.align(0, 0, 0), x.differ(0, 0, 10, true),
            x.seam(0, 0, -1, 0), x.seam(0, 0, 1, 1), x.join(0, 0, 0, 4), x.join(0, 0, 4, 0), x.mark(6, 0, 0),
            x.moment(6), x.moment(0), x.count(4)};
        for (int k = 0; k < answers.length; k++) {
            due.holds("answer " + k + " is a finding", answers[k] < -99999);
        }
        due.is("count(3)", x.count(3), answers.length);
        due.is("layer", x.drop(7), 7);
        x.layer(5, 0, 1);
        x.mark(0, 0, 0);
        due.is("GONE", x.moment(0), LOST);
        due.is("count(3)", x.count(3), answers.length + 1);
        for (int k = 0; k < 15; k++) {
            x.undo();
        }
        due.is("undo", x.undo(), NONE);
        due.is("count(3)", x.count(3), answers.length + 2);
    }

    private static void findingsChangeNothing() {
        due.part("findings change nothing");
        TapeBench x = with(1, L, 3);
        set(x, 1, 4, 5);
        x.layer(0, 200, 0);
        x.mark(0, 0, 2);
        x.pass(0, -1);
        x.put(0, 3, 3);
        x.lose(0, 2, 2);
        x.lay(0, 2);
        x.layer(1, 0, 0);
        x.turnOn(1, false);
        x.move(0, 1);
        x.drop(1);
        x.bake(0, 7);
        x.join(0, 1, 4, 1);
        x.mark(0, 1, 2);
        isPass(x, 0, 1, L, 3);
        isPass(x, 1, 4, 5);
        order(x, 200);
        due.is("moment", x.moment(0), 2);
        due.is("undo takes the mark, no finding", x.undo(), 8);
        due.is("moment", x.moment(0), NONE);
    }
}
