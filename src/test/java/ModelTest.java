import java.util.ArrayDeque;
import java.util.ArrayList;
import java.util.Arrays;
import java.util.Deque;
import java.util.List;
import java.util.Random;

/** Long runs of calls on the class and on a model written anew from the document, side by side. */
public final class ModelTest {
    private static final int RUNS = 3000;
    private static final int CALLS = 512;
    private static final String[] CALLS_BY_NUMBER = {
        "pass", "put", "lose", "sample", "about", "turn", "sheet", "write", "copy", "lay", "layer",
        "turnOn", "move", "drop", "told", "as", "size", "out", "heard", "power", "bake", "align",
        "differ", "seam", "join", "mark", "moment", "undo", "count"};
    /** How often a call that builds something up is made beside one that only asks. */
    private static final int[] WEIGHTS = {
        3, 30, 6, 4, 6, 4, 4, 12, 4, 8, 10,
        6, 5, 5, 5, 4, 5, 25, 8, 6, 5, 6,
        6, 5, 5, 10, 14, 6, 5};
    private static final int[] EXTREMES = {
        Integer.MIN_VALUE, Integer.MAX_VALUE, -1, 0, 1, 120, 121, 119, -2, 4, 8, 9, 10, -9, -10};

    public static void main(String[] args) {
        long[] asked = new long[CALLS_BY_NUMBER.length];
        long[] good = new long[CALLS_BY_NUMBER.length];
        for (int run = 0; run < RUNS; run++) {
            if (!runAgrees(run, asked, good)) {
                System.exit(1);
            }
        }
        boolean dull = false;
        for (int k = 0; k < asked.length; k++) {
            if (good[k] * 5 < asked[k]) {
                System.out.println(CALLS_BY_NUMBER[k] + " answers findings too often: " + good[k] + " of " + asked[k] + " are none");
                dull = true;
            }
        }
        System.out.println("ModelTest: " + RUNS + " runs of " + CALLS + " calls agree");
        if (dull) {
            System.exit(1);
        }
    }

    private static boolean runAgrees(int run, long[] asked, long[] good) {
        Random random = new Random(20261117L + run);
        TapeBench bench = new TapeBench();
        Model model = new Model();
        List<String> told = new ArrayList<>();
        boolean wild = run % 10 == 0;
        int most = run % 3 == 0 ? 120 : 6 + random.nextInt(30);
        Deque<int[]> planned = new ArrayDeque<>();
        for (int n = 0; n < CALLS; n++) {
            if (planned.isEmpty() && (n == 0 || random.nextInt(40) == 0)) {
                planRow(planned, random, most);
            }
            int[] plan = planned.poll();
            int call = plan == null ? weighted(random) : plan[0];
            int[] args = plan == null ? arguments(call, random, model, most) : Arrays.copyOfRange(plan, 1, plan.length);
            if (args.length > 0 && random.nextInt(wild ? 3 : 60) == 0) {
                args[random.nextInt(args.length)] = EXTREMES[random.nextInt(EXTREMES.length)];
            }
            long want = model.answer(CALLS_BY_NUMBER[call], args);
            String row = CALLS_BY_NUMBER[call] + Arrays.toString(args);
            long got;
            try {
                got = ask(bench, call, args);
            } catch (RuntimeException e) {
                print(run, told, row + " threw " + e + ", due is " + want);
                return false;
            }
            asked[call]++;
            if (want > -100000) {
                good[call]++;
            }
            told.add(row + " = " + got);
            if (got != want) {
                print(run, told, "due is " + want);
                return false;
            }
        }
        return true;
    }

    private static void print(int run, List<String> told, String last) {
        System.out.println("run " + run + ":");
        for (String row : told) {
            System.out.println("  " + row);
        }
        System.out.println("  " + last);
    }

    private static int weighted(Random random) {
        int sum = Arrays.stream(WEIGHTS).sum();
        int left = random.nextInt(sum);
        int call = 0;
        while (left >= WEIGHTS[call]) {
            left -= WEIGHTS[call];
            call++;
        }
        return call;
    }

    /** A whole row by a sheet: samples that come one by one would leave most of it at 0. */
    private static void planRow(Deque<int[]> planned, Random r, int most) {
        int s = r.nextInt(4);
        int n = 1 + r.nextInt(most);
        int size = new int[] {2, 20, 1000, 12000}[r.nextInt(4)];
        planned.add(new int[] {number("sheet"), s, 16, n});
        for (int i = 0; i < n; i++) {
            int v = r.nextInt(12) == 0 ? 30000 : r.nextInt(2 * size + 1) - size;
            planned.add(new int[] {number("write"), s, i, v});
        }
        int p = r.nextInt(4);
        planned.add(new int[] {number("lay"), p, s});
        if (r.nextBoolean()) {
            // A second pass of the same recording, later by some samples, with others LOST.
            int q = (p + 1 + r.nextInt(3)) % 4;
            int late = Math.min(n, r.nextInt(6));
            planned.add(new int[] {number("copy"), s, 0, s, late, n - late});
            planned.add(new int[] {number("lay"), q, s});
            planned.add(new int[] {number("lose"), q, r.nextInt(n), 1});
            planned.add(new int[] {number("layer"), 2, p, r.nextInt(10)});
        }
    }

    private static int number(String call) {
        return Arrays.asList(CALLS_BY_NUMBER).indexOf(call);
    }

    private static int[] arguments(int call, Random r, Model m, int most) {
        int p = r.nextInt(30) == 0 ? r.nextInt(6) - 1 : r.nextInt(4);
        int q = r.nextInt(30) == 0 ? r.nextInt(6) - 1 : r.nextInt(4);
        int s = r.nextInt(30) == 0 ? r.nextInt(6) - 1 : r.nextInt(4);
        int length = p >= 0 && p < 4 ? m.passes.get(p).size() : 0;
        int i = r.nextInt(length + 1 + (r.nextInt(20) == 0 ? 1 : 0)) - (r.nextInt(20) == 0 ? 1 : 0);
        int place = r.nextInt(m.layers.size() + 1);
        int to = r.nextInt(m.layers.size() + 1);
        switch (CALLS_BY_NUMBER[call]) {
            case "pass": return new int[] {p, r.nextInt(most + 1)};
            case "put": return new int[] {p, i, value(r)};
            case "lose": return new int[] {p, i, r.nextInt(4)};
            case "sample": return new int[] {p, i};
            case "about": return new int[] {p, r.nextInt(4)};
            case "turn": return new int[] {p, r.nextInt(3)};
            case "sheet": return new int[] {s, new int[] {0, 8, 16, 16, 16, 32, 32, 32}[r.nextInt(8)], r.nextInt(most + 1)};
            case "write": return new int[] {s, r.nextInt(most), r.nextInt(8) == 0 ? r.nextInt() : value(r)};
            case "copy": return new int[] {s, r.nextInt(5), r.nextBoolean() ? s : q, r.nextInt(5), r.nextInt(5)};
            case "lay": return new int[] {p, s};
            case "layer": return layerArguments(r);
            case "turnOn": return new int[] {place, r.nextInt(2)};
            case "move": return new int[] {place, to};
            case "drop": return new int[] {place};
            case "told": return new int[] {place, r.nextInt(4)};
            case "as": return new int[] {place, r.nextInt(8) - 1};
            case "size": return new int[] {p};
            case "out": return new int[] {p, r.nextInt(Math.max(1, length))};
            case "heard": return new int[] {p, r.nextInt(3)};
            case "power": return new int[] {p};
            case "bake": return new int[] {p, q};
            case "align": return new int[] {p, q, r.nextInt(10)};
            case "differ": return new int[] {p, q, r.nextInt(19) - 9, r.nextInt(2)};
            case "seam": {
                int from = r.nextInt(Math.max(1, length));
                return new int[] {p, q, from, from + r.nextInt(10) - 1};
            }
            case "join": return new int[] {p, q, i, s};
            case "mark": return new int[] {r.nextInt(6), p, i};
            case "moment": return new int[] {r.nextInt(6)};
            case "undo": return new int[0];
            default: return new int[] {r.nextInt(4)};
        }
    }

    private static int value(Random r) {
        int kind = r.nextInt(10);
        if (kind < 5) {
            return r.nextInt(41) - 20;
        }
        if (kind < 8) {
            return r.nextInt(2001) - 1000;
        }
        return kind == 8 ? r.nextInt(20001) - 10000 : 10000 * (r.nextInt(3) - 1);
    }

    private static int[] layerArguments(Random r) {
        int kind = r.nextInt(7);
        int b = r.nextInt(12);
        switch (kind) {
            case 0: return new int[] {kind, r.nextInt(801) - 400, b};
            case 1: return new int[] {kind, 1 + (r.nextBoolean() ? r.nextInt(200) : r.nextInt(40000)), b};
            case 2: return new int[] {kind, r.nextInt(4), b};
            case 3: return new int[] {kind, 1 + r.nextInt(r.nextBoolean() ? 3 : 20), b};
            case 4: return new int[] {kind, 1 + r.nextInt(30), b};
            case 5: return new int[] {kind, r.nextInt(r.nextBoolean() ? 10 : 120), b};
            default: return new int[] {kind, 1 + r.nextInt(120), b};
        }
    }

    private static long ask(TapeBench x, int call, int[] a) {
        switch (CALLS_BY_NUMBER[call]) {
            case "pass": return x.pass(a[0], a[1]);
            case "put": return x.put(a[0], a[1], a[2]);
            case "lose": return x.lose(a[0], a[1], a[2]);
            case "sample": return x.sample(a[0], a[1]);
            case "about": return x.about(a[0], a[1]);
            case "turn": return x.turn(a[0], a[1]);
            case "sheet": return x.sheet(a[0], a[1], a[2]);
            case "write": return x.write(a[0], a[1], a[2]);
            case "copy": return x.copy(a[0], a[1], a[2], a[3], a[4]);
            case "lay": return x.lay(a[0], a[1]);
            case "layer": return x.layer(a[0], a[1], a[2]);
            case "turnOn": return x.turnOn(a[0], a[1] == 1);
            case "move": return x.move(a[0], a[1]);
            case "drop": return x.drop(a[0]);
            case "told": return x.told(a[0], a[1]);
            case "as": return x.as(a[0], a[1]);
            case "size": return x.size(a[0]);
            case "out": return x.out(a[0], a[1]);
            case "heard": return x.heard(a[0], a[1]);
            case "power": return x.power(a[0]);
            case "bake": return x.bake(a[0], a[1]);
            case "align": return x.align(a[0], a[1], a[2]);
            case "differ": return x.differ(a[0], a[1], a[2], a[3] == 1);
            case "seam": return x.seam(a[0], a[1], a[2], a[3]);
            case "join": return x.join(a[0], a[1], a[2], a[3]);
            case "mark": return x.mark(a[0], a[1], a[2]);
            case "moment": return x.moment(a[0]);
            case "undo": return x.undo();
            default: return x.count(a[0]);
        }
    }

    private static final class Sheet {
        int bits;
        List<Integer> numbers = new ArrayList<>();
    }

    /** What undo brings back. A LOST sample is null; a mark is {pass, place} or null. */
    private static class State {
        List<List<Integer>> passes = new ArrayList<>();
        List<int[]> layers = new ArrayList<>();
        int[][] marks = new int[6][];

        State copyOf() {
            State copy = new State();
            for (List<Integer> pass : passes) {
                copy.passes.add(new ArrayList<>(pass));
            }
            for (int[] layer : layers) {
                copy.layers.add(layer.clone());
            }
            for (int k = 0; k < 6; k++) {
                copy.marks[k] = marks[k] == null ? null : marks[k].clone();
            }
            return copy;
        }
    }

    /** A finding on its way out of the model. */
    private static final class Finding extends RuntimeException {
        private static final long serialVersionUID = 1;
        final long number;

        Finding(long number) {
            super(null, null, false, false);
            this.number = number;
        }
    }

    private static final class Model extends State {
        private static final List<String> ACTS = List.of("pass", "put", "lose", "lay", "layer", "turnOn",
            "move", "drop", "bake", "join", "mark");
        private final Sheet[] sheets = new Sheet[4];
        private final List<State> kept = new ArrayList<>();
        private long findings = 0;

        Model() {
            for (int p = 0; p < 4; p++) {
                passes.add(new ArrayList<>());
            }
        }

        long answer(String call, int[] a) {
            State before = copyOf();
            try {
                long answer = act(call, a);
                if (ACTS.contains(call)) {
                    kept.add(before);
                    if (kept.size() > 20) {
                        kept.remove(0);
                    }
                }
                return answer;
            } catch (Finding finding) {
                findings++;
                return finding.number;
            }
        }

        private static void ask(boolean fine, long finding) {
            if (!fine) {
                throw new Finding(finding);
            }
        }

        private static boolean in(long v, long least, long most) {
            return v >= least && v <= most;
        }

        private List<Integer> pass(int p) {
            ask(in(p, 0, 3), Due.BEYOND);
            return passes.get(p);
        }

        private static long found(List<Integer> row, int i) {
            ask(in(i, 0, row.size() - 1), Due.BEYOND);
            ask(row.get(i) != null, Due.LOST);
            return row.get(i);
        }

        private int[] layerAt(int place) {
            ask(in(place, 0, layers.size() - 1), Due.BEYOND);
            return layers.get(place);
        }

        private long act(String call, int[] a) {
            switch (call) {
                case "pass": {
                    List<Integer> row = pass(a[0]);
                    ask(in(a[1], 0, 120), Due.BEYOND);
                    long had = row.size();
                    row.clear();
                    for (int i = 0; i < a[1]; i++) {
                        row.add(0);
                    }
                    return had;
                }
                case "put": {
                    List<Integer> row = pass(a[0]);
                    ask(in(a[1], 0, row.size() - 1) && in(a[2], -10000, 10000), Due.BEYOND);
                    return row.set(a[1], a[2]) == null ? 1 : 0;
                }
                case "lose": {
                    List<Integer> row = pass(a[0]);
                    ask(a[1] >= 0 && a[2] >= 0 && (long) a[1] + a[2] <= row.size(), Due.BEYOND);
                    long were = 0;
                    for (int i = 0; i < a[2]; i++) {
                        were += row.set(a[1] + i, null) == null ? 0 : 1;
                    }
                    return were;
                }
                case "sample":
                    return found(pass(a[0]), a[1]);
                case "about": {
                    List<Integer> row = pass(a[0]);
                    ask(in(a[1], 0, 3), Due.BEYOND);
                    return a[1] == 0 ? row.size() : a[1] == 1 ? lost(row) : a[1] == 2 ? turns(row).size() : clicks(row, 100).size();
                }
                case "turn": {
                    List<Integer> turns = turns(pass(a[0]));
                    ask(in(a[1], 0, turns.size() - 1), Due.NONE);
                    return turns.get(a[1]);
                }
                case "sheet":
                case "write":
                case "copy":
                case "lay":
                    return sheetAct(call, a);
                case "size":
                case "out":
                case "heard":
                case "power":
                case "bake":
                    return outputAct(call, a);
                case "align":
                case "differ":
                case "seam":
                case "join":
                    return besideAct(call, a);
                case "mark":
                case "moment":
                case "undo":
                case "count":
                    return wholeAct(call, a);
                default:
                    return layerAct(call, a);
            }
        }

        private Sheet sheetAt(int s) {
            ask(in(s, 0, 3), Due.BEYOND);
            return sheets[s];
        }

        private long sheetAct(String call, int[] a) {
            switch (call) {
                case "sheet": {
                    sheetAt(a[0]);
                    ask(List.of(0, 8, 16, 32).contains(a[1]), Due.BEYOND);
                    ask(a[2] >= 0, Due.SIZE);
                    ask(a[2] <= 120, Due.BEYOND);
                    sheets[a[0]] = null;
                    if (a[1] == 0) {
                        return 0;
                    }
                    sheets[a[0]] = new Sheet();
                    sheets[a[0]].bits = a[1];
                    for (int i = 0; i < a[2]; i++) {
                        sheets[a[0]].numbers.add(0);
                    }
                    return a[2];
                }
                case "write": {
                    Sheet sheet = sheetAt(a[0]);
                    ask(sheet != null, Due.MISSING);
                    ask(in(a[1], 0, sheet.numbers.size() - 1), Due.BEYOND);
                    sheet.numbers.set(a[1], sheet.bits == 8 ? (byte) a[2] : sheet.bits == 16 ? (short) a[2] : a[2]);
                    return 0;
                }
                case "copy": {
                    Sheet from = sheetAt(a[0]);
                    Sheet to = sheetAt(a[2]);
                    ask(from != null && to != null, Due.MISSING);
                    ask(from.bits == to.bits, Due.KIND);
                    ask(a[1] >= 0 && a[3] >= 0 && a[4] >= 0, Due.BEYOND);
                    ask((long) a[1] + a[4] <= from.numbers.size(), Due.BEYOND);
                    ask((long) a[3] + a[4] <= to.numbers.size(), Due.BEYOND);
                    List<Integer> carried = new ArrayList<>(from.numbers.subList(a[1], a[1] + a[4]));
                    for (int i = 0; i < a[4]; i++) {
                        to.numbers.set(a[3] + i, carried.get(i));
                    }
                    return a[4];
                }
                default: {
                    List<Integer> row = pass(a[0]);
                    Sheet sheet = sheetAt(a[1]);
                    ask(sheet != null, Due.MISSING);
                    row.clear();
                    for (int v : sheet.numbers) {
                        boolean lost = !in(v, -10000, 10000) || (sheet.bits == 8 && v == -128);
                        row.add(lost ? null : (Integer) v);
                    }
                    return row.size() - lost(row);
                }
            }
        }

        private long layerAct(String call, int[] a) {
            switch (call) {
                case "layer": {
                    int[][] as = {{-400, 400}, {1, 40000}, {0, 3}, {1, 20}, {1, 30}, {0, 119}, {1, 120}};
                    ask(in(a[0], 0, 6), Due.BEYOND);
                    ask(in(a[1], as[a[0]][0], as[a[0]][1]), Due.BEYOND);
                    ask(a[0] != 2 || in(a[2], 0, 9), Due.BEYOND);
                    ask(a[0] != 5 || in(a[2], 1, 120), Due.BEYOND);
                    ask(layers.size() < 8, Due.FULL);
                    layers.add(new int[] {a[0], a[1], a[0] == 2 || a[0] == 5 ? a[2] : 0, 1});
                    return layers.size() - 1;
                }
                case "turnOn": {
                    int[] layer = layerAt(a[0]);
                    int was = layer[3];
                    layer[3] = a[1] == 1 ? 1 : 0;
                    return was == layer[3] ? 0 : 1;
                }
                case "move": {
                    layerAt(a[0]);
                    layerAt(a[1]);
                    layers.add(a[1], layers.remove(a[0]));
                    return 1;
                }
                case "drop":
                    layerAt(a[0]);
                    layers.remove(a[0]);
                    return layers.size();
                case "told": {
                    int[] layer = layerAt(a[0]);
                    ask(in(a[1], 0, 3), Due.BEYOND);
                    return layer[a[1]];
                }
                default: {
                    int[] layer = layerAt(a[0]);
                    ask(in(a[1], -1, 6), Due.BEYOND);
                    boolean mends = a[1] == 1 && (layer[0] == 2 || layer[0] == 3);
                    boolean warps = a[1] == 4 && layer[0] == 5;
                    ask(a[1] == -1 || a[1] == layer[0] || mends || warps, Due.KIND);
                    return a[0];
                }
            }
        }

        private long outputAct(String call, int[] a) {
            List<Integer> pass = pass(a[0]);
            List<Integer> target = call.equals("bake") ? pass(a[1]) : null;
            List<Integer> out = output(pass, new Integer[1]);
            switch (call) {
                case "size":
                    return out.size();
                case "out":
                    return found(out, a[1]);
                case "heard": {
                    ask(in(a[1], 0, 2), Due.BEYOND);
                    long loudest = 0;
                    long unlike = 0;
                    for (int i = 0; i < out.size(); i++) {
                        Integer v = out.get(i);
                        loudest = Math.max(loudest, v == null ? 0 : Math.abs(v));
                        boolean alike = i < pass.size() && java.util.Objects.equals(v, pass.get(i));
                        unlike += alike ? 0 : 1;
                    }
                    return a[1] == 0 ? loudest : a[1] == 1 ? lost(out) : unlike;
                }
                case "power":
                    return out.stream().filter(v -> v != null).mapToLong(v -> (long) v * v).sum();
                default:
                    target.clear();
                    target.addAll(out);
                    return out.size();
            }
        }

        private long besideAct(String call, int[] a) {
            List<Integer> p = pass(a[0]);
            List<Integer> q = pass(a[1]);
            switch (call) {
                case "align": {
                    ask(in(a[2], 0, 9), Due.BEYOND);
                    Integer d = aligned(p, q, a[2]);
                    ask(d != null, Due.NONE);
                    return d;
                }
                case "differ":
                    ask(in(a[2], -9, 9), Due.BEYOND);
                    return differ(p, q, a[2])[a[3] == 1 ? 1 : 0];
                case "seam": {
                    ask(a[2] >= 0 && a[3] >= a[2], Due.BEYOND);
                    int best = -1;
                    for (int i = Math.min(119, a[3]); i >= a[2]; i--) {
                        if (there(p, i) && there(q, i) && (best < 0 || gap(p, q, i, i) <= gap(p, q, best, best))) {
                            best = i;
                        }
                    }
                    ask(best >= 0, Due.NONE);
                    return best;
                }
                default: {
                    List<Integer> r = pass(a[3]);
                    ask(in(a[2], 0, p.size()), Due.BEYOND);
                    List<Integer> made = new ArrayList<>(p.subList(0, a[2]));
                    made.addAll(q.subList(Math.min(a[2], q.size()), q.size()));
                    r.clear();
                    r.addAll(made);
                    return r.size();
                }
            }
        }

        private long wholeAct(String call, int[] a) {
            switch (call) {
                case "mark":
                    ask(in(a[0], 0, 5), Due.BEYOND);
                    ask(in(a[2], -1, pass(a[1]).size() - 1), Due.BEYOND);
                    marks[a[0]] = a[2] == -1 ? null : new int[] {a[1], a[2]};
                    return 1;
                case "moment": {
                    ask(in(a[0], 0, 5), Due.BEYOND);
                    int[] mark = marks[a[0]];
                    ask(mark != null && mark[1] < passes.get(mark[0]).size(), Due.NONE);
                    Integer[] place = {mark[1]};
                    output(passes.get(mark[0]), place);
                    ask(place[0] != null, Due.LOST);
                    return place[0];
                }
                case "undo": {
                    ask(!kept.isEmpty(), Due.NONE);
                    State before = kept.remove(kept.size() - 1);
                    passes = before.passes;
                    layers = before.layers;
                    marks = before.marks;
                    return kept.size();
                }
                default:
                    ask(in(a[0], 0, 3), Due.BEYOND);
                    switch (a[0]) {
                        case 0: return layers.size();
                        case 1: return layers.stream().filter(layer -> layer[3] == 1).count();
                        case 2: return Arrays.stream(marks).filter(mark -> mark != null).count();
                        default: return findings;
                    }
            }
        }

        private static long lost(List<Integer> row) {
            return row.stream().filter(v -> v == null).count();
        }

        private static boolean there(List<Integer> row, int i) {
            return in(i, 0, row.size() - 1) && row.get(i) != null;
        }

        private static long gap(List<Integer> p, List<Integer> q, int i, int j) {
            return Math.abs(p.get(i) - q.get(j));
        }

        private static List<Integer> turns(List<Integer> row) {
            List<Integer> turns = new ArrayList<>();
            for (int i = 1; i < row.size(); i++) {
                if (there(row, i - 1) && there(row, i) && row.get(i - 1) < 0 && row.get(i) >= 0) {
                    turns.add(i);
                }
            }
            return turns;
        }

        private static List<Integer> clicks(List<Integer> row, int law) {
            List<Integer> clicks = new ArrayList<>();
            for (int i = 1; i + 1 < row.size(); i++) {
                if (there(row, i - 1) && there(row, i) && there(row, i + 1)
                    && Math.abs(2 * row.get(i) - row.get(i - 1) - row.get(i + 1)) > law) {
                    clicks.add(i);
                }
            }
            return clicks;
        }

        private static long[] differ(List<Integer> row, List<Integer> pass, int d) {
            long sum = 0;
            long number = 0;
            for (int i = 0; i < row.size(); i++) {
                if (there(row, i) && there(pass, i + d)) {
                    sum += gap(row, pass, i, i + d);
                    number++;
                }
            }
            return new long[] {sum, number};
        }

        private static Integer aligned(List<Integer> row, List<Integer> pass, int most) {
            List<Integer> shifts = new ArrayList<>();
            for (int d = -most; d <= most; d++) {
                if (differ(row, pass, d)[1] >= 4) {
                    shifts.add(d);
                }
            }
            shifts.sort((d, e) -> {
                long[] x = differ(row, pass, d);
                long[] y = differ(row, pass, e);
                int byRate = Long.compare(x[0] * y[1], y[0] * x[1]);
                int byNearness = Integer.compare(Math.abs(d), Math.abs(e));
                return byRate != 0 ? byRate : byNearness != 0 ? byNearness : Integer.compare(d, e);
            });
            return shifts.isEmpty() ? null : shifts.get(0);
        }

        /** THE OUTPUT; place[0] is the place that is followed, null if there is none or it is GONE. */
        private List<Integer> output(List<Integer> pass, Integer[] place) {
            List<Integer> row = new ArrayList<>(pass);
            for (int[] layer : layers) {
                if (layer[3] == 1) {
                    place[0] = place[0] == null ? null : followed(row, layer, place[0]);
                    row = made(row, layer);
                }
            }
            return row;
        }

        private static Integer followed(List<Integer> row, int[] layer, int place) {
            int a = layer[1];
            if (layer[0] == 5) {
                int cutAhead = 0;
                for (int i = a; i < a + layer[2] && i < row.size(); i++) {
                    if (i == place) {
                        return null;
                    }
                    cutAhead += i < place ? 1 : 0;
                }
                return place - cutAhead;
            }
            List<Integer> turns = turns(row);
            if (layer[0] != 4 || turns.size() < 2) {
                return place;
            }
            int last = turns.size() - 1;
            if (place < turns.get(0) || place > turns.get(last)) {
                return null;
            }
            int time = last * a;
            for (int k = 0; k < last; k++) {
                int from = turns.get(k);
                int to = turns.get(k + 1);
                if (place >= from && place < to) {
                    time = k * a + (place - from) * a / (to - from);
                }
            }
            return time < Math.min(120, last * a + 1) ? (Integer) time : null;
        }

        private List<Integer> made(List<Integer> row, int[] layer) {
            int a = layer[1];
            List<Integer> made = new ArrayList<>(row);
            switch (layer[0]) {
                case 0:
                    made.replaceAll(v -> v == null ? null : (Integer) Math.max(-10000, Math.min(10000, v * a / 100)));
                    return made;
                case 1:
                    for (int i : clicks(row, a)) {
                        made.set(i, (row.get(i - 1) + row.get(i + 1)) / 2);
                    }
                    return made;
                case 2: {
                    List<Integer> pass = passes.get(a);
                    Integer d = aligned(row, pass, layer[2]);
                    for (int i = 0; i < row.size() && d != null; i++) {
                        if (row.get(i) == null && there(pass, i + d)) {
                            made.set(i, pass.get(i + d));
                        }
                    }
                    return made;
                }
                case 3:
                    for (int i = 0; i < row.size(); i++) {
                        made.set(i, bridged(row, i, a));
                    }
                    return made;
                case 4:
                    return warped(row, a);
                case 5: {
                    List<Integer> left = new ArrayList<>(row.subList(0, Math.min(a, row.size())));
                    left.addAll(row.subList(Math.min(a + layer[2], row.size()), row.size()));
                    return left;
                }
                default:
                    for (int k = 0; k < a && k < row.size(); k++) {
                        made.set(k, row.get(k) == null ? null : (Integer) (row.get(k) * (k + 1) / (a + 1)));
                    }
                    return made;
            }
        }

        private static Integer bridged(List<Integer> row, int i, int longest) {
            if (row.get(i) != null) {
                return row.get(i);
            }
            int j = i;
            int k = i;
            while (j >= 0 && row.get(j) == null) {
                j--;
            }
            while (k < row.size() && row.get(k) == null) {
                k++;
            }
            if (j < 0 || k == row.size() || k - j - 1 > longest) {
                return null;
            }
            return (int) Math.floor(row.get(j) + (double) ((i - j) * (row.get(k) - row.get(j))) / (k - j) + 1e-9);
        }

        private static List<Integer> warped(List<Integer> row, int a) {
            List<Integer> turns = turns(row);
            if (turns.size() < 2) {
                return row;
            }
            List<Integer> made = new ArrayList<>();
            for (int k = 0; k < turns.size(); k++) {
                for (int r = 0; r < a && (r == 0 || k + 1 < turns.size()); r++) {
                    // The place in parts of a.
                    int parts = turns.get(k) * a + (r == 0 ? 0 : r * (turns.get(k + 1) - turns.get(k)));
                    Integer x = row.get(parts / a);
                    if (parts % a == 0) {
                        made.add(x);
                        continue;
                    }
                    Integer y = row.get(parts / a + 1);
                    int far = parts % a;
                    made.add(x == null || y == null ? null : (Integer) Math.floorDiv(x * (a - far) + y * far, a));
                }
            }
            return made.size() > 120 ? made.subList(0, 120) : made;
        }
    }
}
