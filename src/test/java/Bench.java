import java.lang.reflect.InvocationTargetException;
import java.lang.reflect.Method;
import java.util.ArrayList;
import java.util.Arrays;
import java.util.List;

/** One TapeBench that is asked by the names of its calls, each answer beside the one that is due. */
final class Bench {
    /** A LOST sample where a row is written out. */
    static final int L = Integer.MIN_VALUE;
    static final int MIN = Integer.MIN_VALUE;
    static final int MAX = Integer.MAX_VALUE;
    static final long BEYOND = Due.BEYOND;
    static final long MISSING = Due.MISSING;
    static final long SIZE = Due.SIZE;
    static final long KIND = Due.KIND;
    static final long FULL = Due.FULL;
    static final long NONE = Due.NONE;
    static final long LOST = Due.LOST;
    /** What a call that throws is taken to answer: no call may answer it. */
    private static final long THREW = Long.MIN_VALUE;
    private static final int MOST_CALLS = 512;

    private final TapeBench bench = new TapeBench();
    private final Due due;
    private int calls = 0;

    Bench(Due due) {
        this.due = due;
    }

    /** A bench whose pass 0 has just these samples. */
    static Bench with(Due due, int... samples) {
        return new Bench(due).row(0, samples);
    }

    private static Method method(String call) {
        for (Method method : TapeBench.class.getDeclaredMethods()) {
            if (method.getName().equals(call)) {
                return method;
            }
        }
        throw new IllegalArgumentException("no call " + call);
    }

    static String text(String call, Object... args) {
        String list = Arrays.toString(args);
        return call + "(" + list.substring(1, list.length() - 1) + ")";
    }

    long ask(String call, Object... args) {
        calls++;
        due.holds("call " + calls + " is none that the document leaves free", calls <= MOST_CALLS);
        try {
            return ((Number) method(call).invoke(bench, args)).longValue();
        } catch (InvocationTargetException e) {
            due.holds(text(call, args) + " throws " + e.getCause() + ", which", false);
            return THREW;
        } catch (IllegalAccessException e) {
            throw new IllegalArgumentException(e);
        }
    }

    Bench due(long want, String call, Object... args) {
        due.is(text(call, args), ask(call, args), want);
        return this;
    }

    /** An act that is no matter here, as long as it is not refused. */
    Bench does(String call, Object... args) {
        due.holds(text(call, args) + " is no finding", ask(call, args) > -100000);
        return this;
    }

    Bench row(int p, int... samples) {
        does("pass", p, samples.length);
        for (int i = 0; i < samples.length; i++) {
            if (samples[i] == L) {
                does("lose", p, i, 1);
            } else if (samples[i] != 0) {
                does("put", p, i, samples[i]);
            }
        }
        return this;
    }

    /** A sheet of these numbers. */
    Bench sheet(int s, int bits, int... numbers) {
        does("sheet", s, bits, numbers.length);
        for (int i = 0; i < numbers.length; i++) {
            does("write", s, i, numbers[i]);
        }
        return this;
    }

    private Bench isAll(String length, String one, Object[] lengthArgs, int p, int... want) {
        due(want.length, length, lengthArgs);
        for (int i = 0; i < want.length; i++) {
            due(want[i] == L ? LOST : want[i], one, p, i);
        }
        return due(BEYOND, one, p, want.length);
    }

    Bench isRow(int p, int... want) {
        return isAll("about", "sample", new Object[] {p, 0}, p, want);
    }

    Bench isOutput(int p, int... want) {
        return isAll("size", "out", new Object[] {p}, p, want);
    }

    Bench order(int... firstNumbers) {
        due(firstNumbers.length, "count", 0);
        for (int place = 0; place < firstNumbers.length; place++) {
            due(firstNumbers[place], "told", place, 1);
        }
        return this;
    }

    /** A bench on which something of each kind is, and more acts were made than are kept. */
    static Bench busy(Due due) {
        Bench x = new Bench(due);
        x.row(0, 5, L, -3, 4, -20, 7).row(1, 5, 9, -3, 4, -20, 7, 1).row(3, L);
        x.sheet(0, 8, 1, -128, 3).sheet(1, 8, 4, 5).sheet(2, 16, 300);
        x.does("layer", 0, 200, 0).does("layer", 2, 1, 2).does("layer", 5, 1, 2).does("turnOn", 2, false);
        x.does("mark", 0, 0, 2).does("mark", 4, 3, 0).does("mark", 5, 1, 6);
        return x;
    }

    /** On a busy bench a call answers a finding, counts as one, and changes nothing, undo's acts neither. */
    static void refused(Due due, long finding, String call, Object... args) {
        Bench untouched = busy(due);
        Bench asked = busy(due);
        asked.due(finding, call, args);
        due.is("findings behind " + text(call, args), asked.ask("count", 3), untouched.ask("count", 3) + 1);
        due.holds(text(call, args) + " changes nothing", asked.all().equals(untouched.all()));
    }

    /** All that can be asked of a busy bench and of what undo makes of it. */
    private List<Long> all() {
        List<Long> all = new ArrayList<>();
        for (int p = 0; p < 4; p++) {
            long length = ask("about", p, 0);
            all.add(length);
            for (int i = 0; i < length; i++) {
                all.add(ask("sample", p, i));
            }
        }
        long layers = ask("count", 0);
        for (int place = 0; place < layers; place++) {
            for (int what = 0; what < 4; what++) {
                all.add(ask("told", place, what));
            }
        }
        for (int mark = 0; mark < 6; mark++) {
            all.add(ask("moment", mark));
        }
        long left = 0;
        for (int acts = 0; acts <= 20 && left >= 0; acts++) {
            addSums(all);
            left = ask("undo");
            all.add(left);
        }
        for (int s = 0; s < 4; s++) {
            all.add(ask("lay", 2, s));
            for (int i = 0; i < 3; i++) {
                all.add(ask("sample", 2, i));
            }
        }
        return all;
    }

    private void addSums(List<Long> all) {
        for (int p = 0; p < 4; p++) {
            all.add(ask("about", p, 1));
            all.add(ask("power", p));
        }
        for (int what = 0; what < 3; what++) {
            all.add(ask("count", what));
        }
    }
}
