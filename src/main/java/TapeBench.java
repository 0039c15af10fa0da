import java.util.Arrays;

/**
 * A bench for old tapes: several passes of one recording with samples that were lost, layers that
 * mend clicks, fill and bridge what was lost, even out the speed by turns, cut, fade and turn up or
 * down, each on or off in its order; shifts by which passes agree, seams between them, and marks
 * that keep their moment.
 */
public final class TapeBench {
    private static final int HIGHEST_FINDING = -100000;
    private static final int BEYOND = -100001;
    private static final int MISSING = -100002;
    private static final int SIZE = -100003;
    private static final int KIND = -100004;
    private static final int FULL = -100005;
    private static final int NONE = -100006;
    private static final int LOST = -100007;

    private static final int PASSES = 4;
    private static final int SHEETS = 4;
    private static final int MARKS = 6;
    private static final int MOST_SAMPLES = 120;
    private static final int MOST_LAYERS = 8;
    private static final int MOST_ACTS = 20;
    private static final int LOUDEST = 10000;
    private static final int WIDEST_SHIFT = 9;
    private static final int FEWEST_PLACES = 4;
    private static final int FEWEST_TURNS = 2;
    private static final int USUAL_LAW = 100;
    private static final int NOWHERE = -1;

    private static final int ANY_KIND = -1;
    private static final int GAIN = 0;
    private static final int MEND = 1;
    private static final int FILL = 2;
    private static final int BRIDGE = 3;
    private static final int WARP = 4;
    private static final int CUT = 5;
    private static final int FADE = 6;

    private static final int[] LOWEST_A = {-400, 1, 0, 1, 1, 0, 1};
    private static final int[] HIGHEST_A = {400, 40000, 3, 20, 30, 119, 120};
    private static final int[] KIND_ABOVE = {-1, -1, 1, 1, -1, 4, -1};

    private final Tape tape;
    private final History history;
    private final Sheet[] sheets;
    private final Turns turns;
    private final Aligner aligner;
    private final Player player;
    private final Row joined;
    private int findings;

    public TapeBench() {
        tape = new Tape();
        history = new History();
        sheets = new Sheet[SHEETS];
        for (int s = 0; s < SHEETS; s++) {
            sheets[s] = new Sheet();
        }
        turns = new Turns();
        aligner = new Aligner();
        player = new Player();
        joined = new Row();
        findings = 0;
    }

    // ---- passes

    public int pass(int p, int n) {
        Row row = tape.rowAt(p);
        if (row == null || n < 0 || n > MOST_SAMPLES) {
            return answer(BEYOND);
        }
        history.keep(tape, p);
        int before = row.length();
        row.restart(n);
        return before;
    }

    public int put(int p, int i, int v) {
        Row row = tape.rowAt(p);
        if (row == null || !row.has(i) || !isSample(v)) {
            return answer(BEYOND);
        }
        history.keep(tape, p);
        int wasLost = row.at(i) == LOST ? 1 : 0;
        row.set(i, v);
        return wasLost;
    }

    public int lose(int p, int from, int n) {
        Row row = tape.rowAt(p);
        if (row == null || !holds(row.length(), from, n)) {
            return answer(BEYOND);
        }
        history.keep(tape, p);
        int lostBefore = row.lostOnes();
        for (int i = from; i < from + n; i++) {
            row.set(i, LOST);
        }
        return row.lostOnes() - lostBefore;
    }

    public int sample(int p, int i) {
        Row row = tape.rowAt(p);
        if (row == null || !row.has(i)) {
            return answer(BEYOND);
        }
        return answer(row.at(i));
    }

    public int about(int p, int what) {
        Row row = tape.rowAt(p);
        if (row == null) {
            return answer(BEYOND);
        }
        switch (what) {
            case 0:
                return row.length();
            case 1:
                return row.lostOnes();
            case 2:
                turns.find(row);
                return turns.found();
            case 3:
                return row.clicks(USUAL_LAW);
            default:
                return answer(BEYOND);
        }
    }

    public int turn(int p, int i) {
        Row row = tape.rowAt(p);
        if (row == null) {
            return answer(BEYOND);
        }
        turns.find(row);
        return answer(turns.placeAt(i));
    }

    // ---- sheets

    public int sheet(int s, int bits, int n) {
        Sheet sheet = sheetAt(s);
        if (sheet == null || !Sheet.canHave(bits)) {
            return answer(BEYOND);
        }
        if (n < 0) {
            return answer(SIZE);
        }
        if (n > MOST_SAMPLES) {
            return answer(BEYOND);
        }
        sheet.restart(bits, bits == 0 ? 0 : n);
        return sheet.length();
    }

    public int write(int s, int i, int v) {
        Sheet sheet = sheetAt(s);
        if (sheet == null) {
            return answer(BEYOND);
        }
        if (sheet.isMissing()) {
            return answer(MISSING);
        }
        if (!sheet.has(i)) {
            return answer(BEYOND);
        }
        sheet.set(i, v);
        return 0;
    }

    public int copy(int s, int from, int t, int to, int n) {
        Sheet source = sheetAt(s);
        Sheet target = sheetAt(t);
        if (source == null || target == null) {
            return answer(BEYOND);
        }
        if (source.isMissing() || target.isMissing()) {
            return answer(MISSING);
        }
        if (source.bits() != target.bits()) {
            return answer(KIND);
        }
        if (!holds(source.length(), from, n) || !holds(target.length(), to, n)) {
            return answer(BEYOND);
        }
        target.take(source, from, to, n);
        return n;
    }

    public int lay(int p, int s) {
        Row row = tape.rowAt(p);
        Sheet sheet = sheetAt(s);
        if (row == null || sheet == null) {
            return answer(BEYOND);
        }
        if (sheet.isMissing()) {
            return answer(MISSING);
        }
        history.keep(tape, p);
        row.empty();
        for (int i = 0; i < sheet.length(); i++) {
            row.add(sheet.asSample(i));
        }
        return row.length() - row.lostOnes();
    }

    // ---- layers, the output

    public int layer(int kind, int a, int b) {
        if (!Layer.canBe(kind, a, b)) {
            return answer(BEYOND);
        }
        int place = tape.layers.inAll();
        if (place >= MOST_LAYERS) {
            return answer(FULL);
        }
        history.keep(tape, NOWHERE);
        tape.layers.insert(place, new Layer(kind, a, Layer.hasB(kind) ? b : 0, true));
        return place;
    }

    public int turnOn(int place, boolean on) {
        Layer layer = tape.layers.at(place);
        if (layer == null) {
            return answer(BEYOND);
        }
        history.keep(tape, NOWHERE);
        if (layer.on == on) {
            return 0;
        }
        tape.layers.replace(place, new Layer(layer.kind, layer.a, layer.b, on));
        return 1;
    }

    public int move(int place, int to) {
        Layer layer = tape.layers.at(place);
        if (layer == null || tape.layers.at(to) == null) {
            return answer(BEYOND);
        }
        history.keep(tape, NOWHERE);
        tape.layers.remove(place);
        tape.layers.insert(to, layer);
        return 1;
    }

    public int drop(int place) {
        if (tape.layers.at(place) == null) {
            return answer(BEYOND);
        }
        history.keep(tape, NOWHERE);
        tape.layers.remove(place);
        return tape.layers.inAll();
    }

    public int told(int place, int what) {
        Layer layer = tape.layers.at(place);
        if (layer == null) {
            return answer(BEYOND);
        }
        switch (what) {
            case 0:
                return layer.kind;
            case 1:
                return layer.a;
            case 2:
                return layer.b;
            case 3:
                return layer.on ? 1 : 0;
            default:
                return answer(BEYOND);
        }
    }

    public int as(int place, int kind) {
        Layer layer = tape.layers.at(place);
        if (layer == null || kind < ANY_KIND || kind > FADE) {
            return answer(BEYOND);
        }
        return layer.isA(kind) ? place : answer(KIND);
    }

    public int size(int p) {
        Row row = tape.rowAt(p);
        if (row == null) {
            return answer(BEYOND);
        }
        return player.play(tape, row, NOWHERE).length();
    }

    public int out(int p, int i) {
        Row row = tape.rowAt(p);
        if (row == null) {
            return answer(BEYOND);
        }
        Row output = player.play(tape, row, NOWHERE);
        if (!output.has(i)) {
            return answer(BEYOND);
        }
        return answer(output.at(i));
    }

    public int heard(int p, int what) {
        Row row = tape.rowAt(p);
        if (row == null) {
            return answer(BEYOND);
        }
        Row output = player.play(tape, row, NOWHERE);
        switch (what) {
            case 0:
                return output.loudest();
            case 1:
                return output.lostOnes();
            case 2:
                return output.placesUnlike(row);
            default:
                return answer(BEYOND);
        }
    }

    public long power(int p) {
        Row row = tape.rowAt(p);
        if (row == null) {
            return answer(BEYOND);
        }
        return player.play(tape, row, NOWHERE).sumOfSquares();
    }

    public int bake(int p, int q) {
        Row row = tape.rowAt(p);
        Row target = tape.rowAt(q);
        if (row == null || target == null) {
            return answer(BEYOND);
        }
        history.keep(tape, q);
        target.become(player.play(tape, row, NOWHERE));
        return target.length();
    }

    // ---- passes beside one another

    public int align(int p, int q, int most) {
        Row row = tape.rowAt(p);
        Row other = tape.rowAt(q);
        if (row == null || other == null || most < 0 || most > WIDEST_SHIFT) {
            return answer(BEYOND);
        }
        return answer(aligner.shift(row, other, most));
    }

    public int differ(int p, int q, int d, boolean number) {
        Row row = tape.rowAt(p);
        Row other = tape.rowAt(q);
        if (row == null || other == null || d < -WIDEST_SHIFT || d > WIDEST_SHIFT) {
            return answer(BEYOND);
        }
        aligner.compare(row, other, d);
        return number ? aligner.places() : aligner.sum();
    }

    public int seam(int p, int q, int from, int to) {
        Row row = tape.rowAt(p);
        Row other = tape.rowAt(q);
        if (row == null || other == null || from < 0 || to < from) {
            return answer(BEYOND);
        }
        int last = Math.min(to, row.length() - 1);
        int best = NONE;
        int least = 0;
        for (int i = from; i <= last; i++) {
            if (row.at(i) == LOST || other.at(i) == LOST) {
                continue;
            }
            int gap = Math.abs(row.at(i) - other.at(i));
            if (best == NONE || gap < least) {
                best = i;
                least = gap;
            }
        }
        return answer(best);
    }

    public int join(int p, int q, int place, int r) {
        Row first = tape.rowAt(p);
        Row second = tape.rowAt(q);
        Row target = tape.rowAt(r);
        if (first == null || second == null || target == null) {
            return answer(BEYOND);
        }
        if (place < 0 || place > first.length()) {
            return answer(BEYOND);
        }
        history.keep(tape, r);
        // The target may be one of both sources, so it changes only when all is read.
        joined.empty();
        for (int i = 0; i < place; i++) {
            joined.add(first.at(i));
        }
        for (int i = place; i < second.length(); i++) {
            joined.add(second.at(i));
        }
        target.become(joined);
        return target.length();
    }

    // ---- marks

    public int mark(int mark, int p, int i) {
        Row row = tape.rowAt(p);
        if (!isMark(mark) || row == null || (i != NOWHERE && !row.has(i))) {
            return answer(BEYOND);
        }
        history.keep(tape, NOWHERE);
        tape.markPasses[mark] = p;
        tape.markPlaces[mark] = i;
        return 1;
    }

    public int moment(int mark) {
        if (!isMark(mark)) {
            return answer(BEYOND);
        }
        Row row = tape.rowAt(tape.markPasses[mark]);
        int place = tape.markPlaces[mark];
        if (row == null || !row.has(place)) {
            return answer(NONE);
        }
        player.play(tape, row, place);
        return player.followed() == NOWHERE ? answer(LOST) : player.followed();
    }

    // ---- the whole

    public int undo() {
        return answer(history.restore(tape));
    }

    public int count(int what) {
        switch (what) {
            case 0:
                return tape.layers.inAll();
            case 1:
                return tape.layers.onesOn();
            case 2:
                return tape.marksSomewhere();
            case 3:
                return findings;
            default:
                return answer(BEYOND);
        }
    }

    /** Every answer that may be a finding goes through here, since findings are counted. */
    private int answer(int value) {
        if (value <= HIGHEST_FINDING) {
            findings++;
        }
        return value;
    }

    private Sheet sheetAt(int s) {
        return s >= 0 && s < sheets.length ? sheets[s] : null;
    }

    private static boolean isMark(int mark) {
        return mark >= 0 && mark < MARKS;
    }

    private static boolean isSample(int v) {
        return v >= -LOUDEST && v <= LOUDEST;
    }

    /** Told by a difference, as from + n may be more than an int holds. */
    private static boolean holds(int length, int from, int n) {
        return from >= 0 && n >= 0 && n <= length && from <= length - n;
    }

    /** A LOST sample is held as the finding LOST itself, so that it can be answered as it stands. */
    private static final class Row {
        private final int[] samples = new int[MOST_SAMPLES];
        private int length = 0;

        int length() {
            return length;
        }

        boolean has(int i) {
            return i >= 0 && i < length && i < samples.length;
        }

        /**
         * What is not there counts as LOST: no layer and no comparison tells them apart. It does not ask
         * has, since it stands at the end of the longest chain of calls, and these may not go deeper.
         */
        int at(int i) {
            return i >= 0 && i < length && i < samples.length ? samples[i] : LOST;
        }

        void set(int i, int v) {
            if (has(i)) {
                samples[i] = v;
            }
        }

        void add(int v) {
            if (length >= 0 && length < samples.length) {
                samples[length] = v;
                length++;
            }
        }

        void empty() {
            length = 0;
        }

        void restart(int n) {
            Arrays.fill(samples, 0);
            length = Math.max(0, Math.min(n, samples.length));
        }

        void become(Row other) {
            length = other.length;
            System.arraycopy(other.samples, 0, samples, 0, samples.length);
        }

        int lostOnes() {
            int lost = 0;
            for (int i = 0; i < length; i++) {
                if (at(i) == LOST) {
                    lost++;
                }
            }
            return lost;
        }

        boolean isTurn(int i) {
            return at(i - 1) != LOST && at(i) != LOST && at(i - 1) < 0 && at(i) >= 0;
        }

        boolean isClick(int i, int law) {
            if (at(i - 1) == LOST || at(i) == LOST || at(i + 1) == LOST) {
                return false;
            }
            int bend = 2 * at(i) - at(i - 1) - at(i + 1);
            return bend > law || bend < -law;
        }

        int clicks(int law) {
            int clicks = 0;
            for (int i = 1; i < length - 1; i++) {
                if (isClick(i, law)) {
                    clicks++;
                }
            }
            return clicks;
        }

        int loudest() {
            int loudest = 0;
            for (int i = 0; i < length; i++) {
                if (at(i) != LOST) {
                    loudest = Math.max(loudest, Math.abs(at(i)));
                }
            }
            return loudest;
        }

        long sumOfSquares() {
            long sum = 0;
            for (int i = 0; i < length; i++) {
                if (at(i) != LOST) {
                    sum += (long) at(i) * at(i);
                }
            }
            return sum;
        }

        int placesUnlike(Row other) {
            int places = 0;
            for (int i = 0; i < length; i++) {
                if (!other.has(i) || at(i) != other.at(i)) {
                    places++;
                }
            }
            return places;
        }
    }

    /** Never changed once made, so the steps that the history keeps may share it. */
    private static final class Layer {
        final int kind;
        final int a;
        final int b;
        final boolean on;

        Layer(int kind, int a, int b, boolean on) {
            this.kind = kind;
            this.a = a;
            this.b = b;
            this.on = on;
        }

        static boolean hasB(int kind) {
            return kind == FILL || kind == CUT;
        }

        static boolean canBe(int kind, int a, int b) {
            if (kind < GAIN || kind > FADE || a < LOWEST_A[kind] || a > HIGHEST_A[kind]) {
                return false;
            }
            if (kind == FILL) {
                return b >= 0 && b <= WIDEST_SHIFT;
            }
            return kind != CUT || (b >= 1 && b <= MOST_SAMPLES);
        }

        boolean isA(int wanted) {
            if (wanted == ANY_KIND || wanted == kind) {
                return true;
            }
            return kind >= GAIN && kind <= FADE && KIND_ABOVE[kind] == wanted;
        }
    }

    /** Each step of the history holds such an order too, so it can become another one as a whole. */
    private static final class Layers {
        private final Layer[] order = new Layer[MOST_LAYERS];
        private int laid = 0;

        int inAll() {
            return laid;
        }

        Layer at(int place) {
            return place >= 0 && place < laid && place < order.length ? order[place] : null;
        }

        int onesOn() {
            int ones = 0;
            for (int place = 0; place < laid; place++) {
                Layer layer = at(place);
                if (layer != null && layer.on) {
                    ones++;
                }
            }
            return ones;
        }

        void insert(int to, Layer layer) {
            if (laid >= order.length || to < 0 || to > laid) {
                return;
            }
            for (int place = laid; place > to; place--) {
                order[place] = order[place - 1];
            }
            order[to] = layer;
            laid++;
        }

        void remove(int place) {
            if (at(place) == null) {
                return;
            }
            for (int k = place; k < laid - 1; k++) {
                order[k] = order[k + 1];
            }
            laid--;
        }

        void replace(int place, Layer layer) {
            if (at(place) != null) {
                order[place] = layer;
            }
        }

        void become(Layers other) {
            laid = other.laid;
            for (int place = 0; place < order.length; place++) {
                order[place] = other.order[place];
            }
        }
    }

    /** All that an act can change and undo brings back. */
    private static final class Tape {
        private final Row[] rows = new Row[PASSES];
        final Layers layers = new Layers();
        final int[] markPasses = new int[MARKS];
        final int[] markPlaces = new int[MARKS];

        Tape() {
            for (int p = 0; p < PASSES; p++) {
                rows[p] = new Row();
            }
            Arrays.fill(markPlaces, NOWHERE);
        }

        Row rowAt(int p) {
            return p >= 0 && p < rows.length ? rows[p] : null;
        }

        int marksSomewhere() {
            int marks = 0;
            for (int mark = 0; mark < MARKS; mark++) {
                if (markPlaces[mark] != NOWHERE) {
                    marks++;
                }
            }
            return marks;
        }
    }

    /** What an act may change, as it was ahead of it: no act changes more passes than one. */
    private static final class Step {
        private final Row row = new Row();
        private final Layers layers = new Layers();
        private final int[] markPasses = new int[MARKS];
        private final int[] markPlaces = new int[MARKS];
        private int p = NOWHERE;

        void keep(Tape tape, int pass) {
            p = pass;
            Row kept = tape.rowAt(p);
            if (kept != null) {
                row.become(kept);
            }
            layers.become(tape.layers);
            System.arraycopy(tape.markPasses, 0, markPasses, 0, MARKS);
            System.arraycopy(tape.markPlaces, 0, markPlaces, 0, MARKS);
        }

        void bringBack(Tape tape) {
            Row changed = tape.rowAt(p);
            if (changed != null) {
                changed.become(row);
            }
            tape.layers.become(layers);
            System.arraycopy(markPasses, 0, tape.markPasses, 0, MARKS);
            System.arraycopy(markPlaces, 0, tape.markPlaces, 0, MARKS);
        }
    }

    /** The latest acts that can be undone; the oldest gives its room to the newest. */
    private static final class History {
        private final Step[] steps = new Step[MOST_ACTS];
        private int next = 0;
        private int kept = 0;

        History() {
            for (int k = 0; k < MOST_ACTS; k++) {
                steps[k] = new Step();
            }
        }

        /** Asked ahead of an act that changes a pass, or NOWHERE if it changes none. */
        void keep(Tape tape, int pass) {
            Step step = stepAt(next);
            if (step == null) {
                return;
            }
            step.keep(tape, pass);
            next = (next + 1) % MOST_ACTS;
            kept = Math.min(kept + 1, MOST_ACTS);
        }

        /** How many more acts can be undone, or NONE if there was nothing to bring back. */
        int restore(Tape tape) {
            int latest = (next + MOST_ACTS - 1) % MOST_ACTS;
            Step step = stepAt(latest);
            if (kept == 0 || step == null) {
                return NONE;
            }
            step.bringBack(tape);
            next = latest;
            kept--;
            return kept;
        }

        private Step stepAt(int k) {
            return k >= 0 && k < steps.length ? steps[k] : null;
        }
    }

    /** Of 0 bits: it is MISSING. */
    private static final class Sheet {
        private final int[] numbers = new int[MOST_SAMPLES];
        private int bits = 0;
        private int length = 0;

        static boolean canHave(int bits) {
            return bits == 0 || bits == 8 || bits == 16 || bits == 32;
        }

        boolean isMissing() {
            return bits == 0;
        }

        int bits() {
            return bits;
        }

        int length() {
            return length;
        }

        boolean has(int i) {
            return i >= 0 && i < length && i < numbers.length;
        }

        void restart(int newBits, int n) {
            Arrays.fill(numbers, 0);
            bits = newBits;
            length = Math.max(0, Math.min(n, numbers.length));
        }

        void set(int i, int v) {
            if (has(i)) {
                int unused = 32 - bits;
                numbers[i] = (v << unused) >> unused;
            }
        }

        void take(Sheet source, int from, int to, int n) {
            if (holds(source.length, from, n) && holds(length, to, n)) {
                System.arraycopy(source.numbers, from, numbers, to, n);
            }
        }

        int asSample(int i) {
            if (!has(i) || !isSample(numbers[i]) || (bits == 8 && numbers[i] == -128)) {
                return LOST;
            }
            return numbers[i];
        }
    }

    /** Sum and places are both found by one walk; they stay here, as a method answers only one. */
    private static final class Aligner {
        private int sum = 0;
        private int places = 0;

        int sum() {
            return sum;
        }

        int places() {
            return places;
        }

        void compare(Row row, Row pass, int d) {
            sum = 0;
            places = 0;
            for (int i = 0; i < row.length(); i++) {
                int x = row.at(i);
                int y = pass.at(i + d);
                if (x != LOST && y != LOST) {
                    sum += Math.abs(x - y);
                    places++;
                }
            }
        }

        /** Asks the shifts from 0 outwards, those below 0 first, so that of equals the first stays. */
        int shift(Row row, Row pass, int most) {
            int best = NONE;
            long bestSum = 0;
            long bestPlaces = 1;
            for (int step = 0; step <= 2 * most; step++) {
                int d = step % 2 == 0 ? step / 2 : -(step + 1) / 2;
                compare(row, pass, d);
                if (places < FEWEST_PLACES) {
                    continue;
                }
                // Both sides times both numbers of places: whole numbers compare without a rest.
                if (best == NONE || sum * bestPlaces < bestSum * places) {
                    best = d;
                    bestSum = sum;
                    bestPlaces = places;
                }
            }
            return best;
        }
    }

    /** The TURNS of a row, found all at once since a WARP asks for them again and again. */
    private static final class Turns {
        private final int[] places = new int[MOST_SAMPLES];
        private int found = 0;

        void find(Row row) {
            found = 0;
            for (int i = 1; i < row.length(); i++) {
                if (row.isTurn(i) && found < places.length) {
                    places[found] = i;
                    found++;
                }
            }
        }

        int found() {
            return found;
        }

        int placeAt(int k) {
            return k >= 0 && k < found && k < places.length ? places[k] : NONE;
        }

        /** Which TURN is the latest not behind a place, NOWHERE if all are. */
        int latestUpTo(int place) {
            int latest = NOWHERE;
            for (int k = 0; k < found && placeAt(k) <= place; k++) {
                latest = k;
            }
            return latest;
        }
    }

    /** Makes THE OUTPUT of a pass, and follows a mark on its way; its rows are used by every call. */
    private static final class Player {
        private final Aligner aligner = new Aligner();
        private final Turns turns = new Turns();
        private Row row = new Row();
        private Row next = new Row();
        private int followed = NOWHERE;

        /** Where the place that was followed is in THE OUTPUT, NOWHERE if it is GONE. */
        int followed() {
            return followed;
        }

        /** The row that is answered stays as it is until the next call alone. */
        Row play(Tape tape, Row pass, int place) {
            row.become(pass);
            followed = place;
            for (int k = 0; k < tape.layers.inAll(); k++) {
                Layer layer = tape.layers.at(k);
                if (layer == null || !layer.on) {
                    continue;
                }
                next.empty();
                makeNext(layer, tape);
                Row made = next;
                next = row;
                row = made;
            }
            return row;
        }

        private void makeNext(Layer layer, Tape tape) {
            switch (layer.kind) {
                case GAIN:
                    gain(layer.a);
                    break;
                case MEND:
                    mend(layer.a);
                    break;
                case FILL:
                    fill(tape.rowAt(layer.a), layer.b);
                    break;
                case BRIDGE:
                    bridge(layer.a);
                    break;
                case WARP:
                    warp(layer.a);
                    break;
                case CUT:
                    cut(layer.a, layer.b);
                    break;
                default:
                    fade(layer.a);
                    break;
            }
        }

        private void gain(int a) {
            for (int i = 0; i < row.length(); i++) {
                int v = row.at(i);
                next.add(v == LOST ? LOST : Math.max(-LOUDEST, Math.min(LOUDEST, v * a / 100)));
            }
        }

        private void mend(int a) {
            for (int i = 0; i < row.length(); i++) {
                next.add(row.isClick(i, a) ? (row.at(i - 1) + row.at(i + 1)) / 2 : row.at(i));
            }
        }

        private void fill(Row pass, int most) {
            next.become(row);
            if (pass == null) {
                return;
            }
            int d = aligner.shift(row, pass, most);
            if (d == NONE) {
                return;
            }
            for (int i = 0; i < row.length(); i++) {
                if (row.at(i) == LOST) {
                    next.set(i, pass.at(i + d));
                }
            }
        }

        private void bridge(int longest) {
            next.become(row);
            int ahead = NOWHERE;
            for (int k = 0; k < row.length(); k++) {
                if (row.at(k) == LOST) {
                    continue;
                }
                if (ahead != NOWHERE && k - ahead - 1 <= longest) {
                    span(ahead, k);
                }
                ahead = k;
            }
        }

        private void span(int j, int k) {
            int x = row.at(j);
            int y = row.at(k);
            for (int i = j + 1; i < k; i++) {
                next.set(i, x + Math.floorDiv((i - j) * (y - x), k - j));
            }
        }

        private void warp(int a) {
            turns.find(row);
            if (turns.found() < FEWEST_TURNS) {
                next.become(row);
                return;
            }
            int length = Math.min(MOST_SAMPLES, (turns.found() - 1) * a + 1);
            for (int t = 0; t < length; t++) {
                next.add(sampleAtTime(t, a));
            }
            followWarp(a, length);
        }

        private int sampleAtTime(int t, int a) {
            if (a <= 0) {
                return LOST;
            }
            int from = turns.placeAt(t / a);
            int r = t % a;
            // The last TURN has none behind it, and none is needed there.
            if (r == 0) {
                return row.at(from);
            }
            int way = r * (turns.placeAt(t / a + 1) - from);
            int i = from + way / a;
            int rest = way % a;
            if (rest == 0) {
                return row.at(i);
            }
            int x = row.at(i);
            int y = row.at(i + 1);
            return x == LOST || y == LOST ? LOST : x + Math.floorDiv(rest * (y - x), a);
        }

        private void followWarp(int a, int length) {
            int k = turns.latestUpTo(followed);
            int from = turns.placeAt(k);
            int to = turns.placeAt(k + 1);
            int time = NOWHERE;
            if (k != NOWHERE && followed == from) {
                time = k * a;
            } else if (k != NOWHERE && to > from) {
                time = k * a + (followed - from) * a / (to - from);
            }
            followed = time < length ? time : NOWHERE;
        }

        private void cut(int a, int b) {
            for (int i = 0; i < row.length(); i++) {
                if (i < a || i >= a + b) {
                    next.add(row.at(i));
                }
            }
            if (followed >= a) {
                followed = followed < a + b ? NOWHERE : followed - b;
            }
        }

        private void fade(int a) {
            for (int i = 0; i < row.length(); i++) {
                int v = row.at(i);
                next.add(v != LOST && i < a ? v * (i + 1) / (a + 1) : v);
            }
        }
    }
}
