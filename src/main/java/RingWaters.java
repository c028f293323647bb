import java.util.Arrays;
import java.util.NoSuchElementException;

/**
 * Water in looped pipes, told as a text: flows are put right ring by ring, and questions
 * about heads, pressures, fires, cuts, leaks are answered. The numbered promises stand in
 * the project's document; words in capitals here are its terms.
 */
public final class RingWaters {
    public static final int NONE = -1;
    public static final long NOTHING = Long.MIN_VALUE;

    /** The document's -2: the question is a fair one, but there is no such thing. */
    private static final int NO_ONE = -2;

    private static final int MOST_BYTES = 600;
    private static final int BYTES_A_FEED = 20;
    private static final int MOST_JOINTS = 9;
    private static final int MOST_EDGES = 14;
    private static final int MOST_LIFTS = 6;
    private static final int FLOW_A_LIFT = 10;
    private static final int MOST_LETTERS = 6;
    private static final int MOST_DIGITS = 3;
    private static final int MOST_ROUNDS = 20;
    private static final int MOST_SWEEPS = 60;
    private static final int MOST_STEP = 1000;
    private static final int MOST_ACTS = 12;

    private static final int MOST_HEAD = 999;
    private static final int MOST_DRAW = 60;
    private static final int MOST_HEIGHT = 300;
    private static final int MOST_RESIST = 20;
    private static final int MOST_LIFT = 300;
    private static final int MOST_FLOW_ASKED = 10_000;
    private static final int MOST_SCALE = 300;
    private static final int LEAST_PRESSURE_ASKED = -30_000;
    private static final int MOST_PRESSURE_ASKED = 90_000;
    private static final int MOST_FIRE = 60;
    private static final int MOST_LEAK = 40;
    private static final int MOST_MEASURED = 900_000;
    private static final int FAR_IF_DRY = 1_000_000;

    private static final int PIPE = 0;
    private static final int CHECK = 1;
    private static final int PUMP = 2;

    private static final int NO_SUCH = 1;
    private static final int BAD_NUMBER = 2;
    private static final int FAULTY = 4;
    private static final int NOT_SO = 5;

    private static final int FAULT_FORM = 1;
    private static final int FAULT_BOUNDS = 2;
    private static final int FAULT_NAME = 3;
    private static final int FAULT_MANY = 4;
    private static final int FAULT_LACKS = 5;

    private static final int ACT_VALVE = 0;
    private static final int ACT_DRAW = 1;
    private static final int ACT_WELL = 2;
    private static final int ACT_RESIST = 3;

    private final byte[] tape = new byte[MOST_BYTES];
    private int taped;
    private int latestFault;
    private int faultPlace;
    private int latestTrouble;
    private final Reader reader;
    private final Waters waters;
    private final Net net;
    private final Waters paper;
    private final Net sketch;
    private final Acts acts;
    private final Measures measures;

    public RingWaters() {
        faultPlace = NONE;
        reader = new Reader();
        waters = new Waters();
        net = waters.net;
        paper = new Waters();
        sketch = paper.net;
        acts = new Acts();
        measures = new Measures();
    }

    // ---- texts

    public int feed(int a, int b, int c, int d, int e) {
        if (taped + BYTES_A_FEED > MOST_BYTES) {
            return NONE;
        }
        putBytes(a);
        putBytes(b);
        putBytes(c);
        putBytes(d);
        putBytes(e);
        return taped;
    }

    public int text(int n) {
        if (n < 0 || n > taped) {
            return refuse(BAD_NUMBER);
        }
        latestFault = reader.readText(tape, n);
        taped = 0;
        if (latestFault != 0) {
            refuse(FAULTY);
            faultPlace = reader.start;
            return NONE;
        }
        allow();
        net.copyFrom(reader.net);
        acts.count = 0;
        measures.clear();
        settle();
        return net.joints;
    }

    public int fault() {
        return latestFault;
    }

    public int where() {
        return faultPlace;
    }

    public int about(int what) {
        if (!hasText() || what < 0 || what > 10) {
            return refuse(NO_SUCH);
        }
        allow();
        switch (what) {
            case 0: return net.joints;
            case 1: return net.edges;
            case 2: return waters.rings.count;
            case 3: return waters.atRest ? 1 : 0;
            case 4: return waters.rounds;
            case 5: return waters.sweeps;
            case 6: return waters.given();
            case 7: return acts.count;
            case 8: return waters.dryJoints();
            case 9: return waters.shut;
            default: return measures.count();
        }
    }

    public int edge(int e, int what) {
        if (!net.hasEdge(e) || what < 0 || what > 7) {
            return refuse(NO_SUCH);
        }
        allow();
        switch (what) {
            case 0: return net.firsts[e];
            case 1: return net.seconds[e];
            case 2: return net.kinds[e];
            case 3: return net.kinds[e] == PUMP ? NO_ONE : net.resists[e];
            case 4: return bit(net.closed, e);
            case 5: return bit(waters.shut, e);
            case 6: return bit(waters.tree.edges, e);
            default: return waters.rings.countThrough(e);
        }
    }

    public long flow(int e) {
        if (!net.hasEdge(e)) {
            return refuseLong(NO_SUCH);
        }
        allow();
        return waters.flows[e];
    }

    public long loss(int e) {
        if (!net.hasEdge(e)) {
            return refuseLong(NO_SUCH);
        }
        allow();
        return net.lossBy(e, waters.flows[e]);
    }

    public int joint(int j, int what) {
        if (!net.hasJoint(j) || what < 0 || what > 3) {
            return refuse(NO_SUCH);
        }
        allow();
        switch (what) {
            case 0: return net.draws[j];
            case 1: return 100 * net.heights[j];
            case 2: return waters.tree.hangsBy[j];
            default: return net.edgesAt(j);
        }
    }

    public long head(int j) {
        int why = whyNoWaterAt(j);
        if (why != 0) {
            return refuseLong(why);
        }
        allow();
        return waters.heads[j];
    }

    public long pressure(int j) {
        int why = whyNoWaterAt(j);
        if (why != 0) {
            return refuseLong(why);
        }
        allow();
        return waters.pressureAt(j);
    }

    public int weakest() {
        if (!hasText()) {
            return refuse(NO_SUCH);
        }
        allow();
        return waters.weakestJoint();
    }

    public int ring(int k, int i) {
        if (!hasRing(k) || i < 0) {
            return refuse(NO_SUCH);
        }
        allow();
        return waters.rings.member(k, i);
    }

    public long sum(int k, int what) {
        if (!hasRing(k) || what < 0 || what > 1) {
            return refuseLong(NO_SUCH);
        }
        allow();
        return what == 0 ? waters.ringSum(k) : waters.ringSteep(k);
    }

    public long early(int e, int n) {
        if (!net.hasEdge(e)) {
            return refuseLong(NO_SUCH);
        }
        if (n < 0 || n > MOST_SWEEPS) {
            return refuseLong(BAD_NUMBER);
        }
        allow();
        sketch.copyFrom(net);
        paper.sweepFirstRound(n);
        return paper.flows[e];
    }

    public long work() {
        if (!hasText()) {
            return refuseLong(NO_SUCH);
        }
        allow();
        return waters.pumpWork();
    }

    public long gap(int n) {
        if (!hasText()) {
            return refuseLong(NO_SUCH);
        }
        if (n < 0 || n > MOST_SWEEPS) {
            return refuseLong(BAD_NUMBER);
        }
        allow();
        sketch.copyFrom(net);
        paper.sweepFirstRound(n);
        return paper.greatestRingSum();
    }

    public long balance(int j) {
        if (!isDrawingJoint(j)) {
            return refuseLong(NO_SUCH);
        }
        allow();
        return waters.leftOverAt(j);
    }

    public long lossAt(int e, int f, int what) {
        if (!net.hasEdge(e) || what < 0 || what > 1) {
            return refuseLong(NO_SUCH);
        }
        if (f < -MOST_FLOW_ASKED || f > MOST_FLOW_ASKED) {
            return refuseLong(BAD_NUMBER);
        }
        allow();
        return what == 0 ? net.lossBy(e, f) : net.steepBy(e, f);
    }

    public int behind(int j) {
        if (!net.hasJoint(j)) {
            return refuse(NO_SUCH);
        }
        allow();
        return waters.tree.countBehind(j);
    }

    // ---- on paper

    public long scaled(int n) {
        if (!hasText()) {
            return refuseLong(NO_SUCH);
        }
        if (n < 0 || n > MOST_SCALE) {
            return refuseLong(BAD_NUMBER);
        }
        sketch.copyFrom(net);
        sketch.scaleDraws(net, n);
        paper.solve();
        long least = paper.leastPressureOfAll();
        if (least == NOTHING) {
            return refuseLong(NOT_SO);
        }
        allow();
        return least;
    }

    public int most(int p) {
        if (!hasText()) {
            return refuse(NO_SUCH);
        }
        if (!isPressureAsked(p)) {
            return refuse(BAD_NUMBER);
        }
        allow();
        sketch.copyFrom(net);
        for (int n = MOST_SCALE; n >= 0; n--) {
            boolean isOther = sketch.scaleDraws(net, n);
            // The same draws as by the number ahead: they were not enough there.
            if (!isOther && n < MOST_SCALE) {
                continue;
            }
            paper.solve();
            if (paper.leastPressureOfAll() >= p) {
                return n;
            }
        }
        return NO_ONE;
    }

    public int pairs() {
        if (!hasText()) {
            return refuse(NO_SUCH);
        }
        allow();
        int aside = net.closed | vitalEdges();
        int dryNow = waters.dryJoints();
        int count = 0;
        for (int d = 0; d < net.edges; d++) {
            for (int e = d + 1; e < net.edges; e++) {
                int both = 1 << d | 1 << e;
                if ((aside & both) == 0 && (dryIfClosed(both) & ~dryNow) != 0) {
                    count++;
                }
            }
        }
        return count;
    }

    public int fire(int j, int p) {
        if (!isDrawingJoint(j)) {
            return refuse(NO_SUCH);
        }
        if (!isPressureAsked(p)) {
            return refuse(BAD_NUMBER);
        }
        allow();
        for (int n = MOST_FIRE; n >= 0; n--) {
            solveWithMore(j, n);
            if (paper.leastPressureOfAll() >= p) {
                return n;
            }
        }
        return NO_ONE;
    }

    public int cut(int e) {
        if (!net.hasEdge(e)) {
            return refuse(NO_SUCH);
        }
        allow();
        return dryIfClosed(1 << e);
    }

    public int vital() {
        if (!hasText()) {
            return refuse(NO_SUCH);
        }
        allow();
        return vitalEdges();
    }

    public int widen() {
        if (!hasText()) {
            return refuse(NO_SUCH);
        }
        allow();
        return bestToWiden();
    }

    public long widened() {
        if (!hasText()) {
            return refuseLong(NO_SUCH);
        }
        int e = bestToWiden();
        if (e == NO_ONE) {
            return refuseLong(NOT_SO);
        }
        allow();
        return leastIfWidened(e);
    }

    // ---- leaks

    public int measure(int j, int head) {
        if (!isDrawingJoint(j)) {
            return refuse(NO_SUCH);
        }
        if (head < -MOST_MEASURED || head > MOST_MEASURED) {
            return refuse(BAD_NUMBER);
        }
        allow();
        measures.note(j, head);
        return measures.count();
    }

    public int forget() {
        if (!hasText()) {
            return refuse(NO_SUCH);
        }
        allow();
        int count = measures.count();
        measures.clear();
        return count;
    }

    public long off(int j, int n) {
        if (!isDrawingJoint(j)) {
            return refuseLong(NO_SUCH);
        }
        if (n < 0 || n > MOST_LEAK) {
            return refuseLong(BAD_NUMBER);
        }
        if (measures.count() == 0) {
            return refuseLong(NOT_SO);
        }
        allow();
        solveWithMore(j, n);
        return measures.farFrom(paper);
    }

    public long leak(int what) {
        if (!hasText() || what < 0 || what > 2) {
            return refuseLong(NO_SUCH);
        }
        if (measures.count() == 0) {
            return refuseLong(NOT_SO);
        }
        allow();
        if (!measures.isLeakFound) {
            findLeak();
        }
        switch (what) {
            case 0: return measures.leakJoint;
            case 1: return measures.leakDraw;
            default: return measures.leakFar;
        }
    }

    // ---- acts

    public int valve(int e, boolean is) {
        if (!net.hasEdge(e)) {
            return refuse(NO_SUCH);
        }
        int was = bit(net.closed, e);
        if (was == (is ? 1 : 0)) {
            return refuse(NOT_SO);
        }
        allow();
        acts.note(ACT_VALVE, e, was);
        net.closed ^= 1 << e;
        settle();
        return Integer.bitCount(waters.dryJoints());
    }

    public int draw(int j, int n) {
        if (!isDrawingJoint(j)) {
            return refuse(NO_SUCH);
        }
        if (n < 0 || n > MOST_DRAW) {
            return refuse(BAD_NUMBER);
        }
        allow();
        int was = net.draws[j];
        acts.note(ACT_DRAW, j, was);
        net.draws[j] = n;
        settle();
        return was;
    }

    public int well(int n) {
        if (!hasText()) {
            return refuse(NO_SUCH);
        }
        if (n < 0 || n > MOST_HEAD) {
            return refuse(BAD_NUMBER);
        }
        allow();
        int was = net.wellHead;
        acts.note(ACT_WELL, 0, was);
        net.wellHead = n;
        settle();
        return was;
    }

    public int resist(int e, int n) {
        if (!net.hasEdge(e)) {
            return refuse(NO_SUCH);
        }
        if (net.kinds[e] == PUMP) {
            return refuse(NOT_SO);
        }
        if (n < 1 || n > MOST_RESIST) {
            return refuse(BAD_NUMBER);
        }
        allow();
        int was = net.resists[e];
        acts.note(ACT_RESIST, e, was);
        net.resists[e] = n;
        settle();
        return was;
    }

    public int undo() {
        if (!hasText()) {
            return refuse(NO_SUCH);
        }
        if (acts.count == 0) {
            return refuse(NOT_SO);
        }
        allow();
        acts.takeBackLatest(net);
        settle();
        return acts.count;
    }

    // ---- what is told

    public int named(int n) throws NoSuchElementException {
        int j = n < 0 || n > taped ? NONE : net.jointCalled(Reader.onlyWord(tape, n));
        if (j == NONE) {
            throw new NoSuchElementException();
        }
        return j;
    }

    public int size() {
        return taped;
    }

    public int trouble() {
        return latestTrouble;
    }

    // ---- refusing and allowing

    private int refuse(int why) {
        latestTrouble = why;
        faultPlace = NONE;
        return NONE;
    }

    private long refuseLong(int why) {
        refuse(why);
        return NOTHING;
    }

    private void allow() {
        latestTrouble = 0;
        faultPlace = NONE;
    }

    private boolean hasText() {
        return net.joints > 0;
    }

    private boolean isDrawingJoint(int j) {
        return j != 0 && net.hasJoint(j);
    }

    private boolean hasRing(int k) {
        return hasText() && k >= 0 && k < waters.rings.count;
    }

    private int whyNoWaterAt(int j) {
        if (!net.hasJoint(j)) {
            return NO_SUCH;
        }
        return bit(waters.tree.met, j) == 0 ? NOT_SO : 0;
    }

    private static boolean isPressureAsked(int p) {
        return p >= LEAST_PRESSURE_ASKED && p <= MOST_PRESSURE_ASKED;
    }

    private static int bit(int bits, int i) {
        return bits >> i & 1;
    }

    private void putBytes(int four) {
        for (int shift = 24; shift >= 0 && taped < MOST_BYTES; shift -= 8) {
            tape[taped] = (byte) (four >> shift);
            taped++;
        }
    }

    /** Behind each TEXT and each act: where a leak is found depends on all that is told. */
    private void settle() {
        waters.solve();
        measures.isLeakFound = false;
    }

    // ---- answers on paper

    private void solveWithMore(int j, int n) {
        sketch.copyFrom(net);
        sketch.draws[j] += n;
        paper.solve();
    }

    private int dryIfClosed(int edges) {
        sketch.copyFrom(net);
        sketch.closed |= edges;
        paper.solve();
        return paper.dryJoints();
    }

    private int vitalEdges() {
        int dryNow = waters.dryJoints();
        int edges = 0;
        for (int e = 0; e < net.edges; e++) {
            if (bit(net.closed, e) == 0 && (dryIfClosed(1 << e) & ~dryNow) != 0) {
                edges |= 1 << e;
            }
        }
        return edges;
    }

    private int bestToWiden() {
        int best = NO_ONE;
        long greatest = NOTHING;
        for (int e = 0; e < net.edges; e++) {
            if (net.kinds[e] == PUMP || net.resists[e] <= 1 || bit(net.closed, e) == 1) {
                continue;
            }
            long least = leastIfWidened(e);
            if (least > greatest) {
                greatest = least;
                best = e;
            }
        }
        return best;
    }

    /** NOTHING if all JOINTS are DRY then. */
    private long leastIfWidened(int e) {
        sketch.copyFrom(net);
        sketch.resists[e]--;
        paper.solve();
        return paper.leastPressure();
    }

    private void findLeak() {
        measures.leakFar = Long.MAX_VALUE;
        for (int j = 1; j < net.joints; j++) {
            for (int n = 1; n <= MOST_LEAK; n++) {
                solveWithMore(j, n);
                measures.offerLeak(j, n, measures.farFrom(paper));
            }
        }
        measures.isLeakFound = true;
    }

    /** What is told of well, joints and edges, by the TEXT and by acts behind it. */
    private static final class Net {
        /** With the well; 0 as long as there is no TEXT. */
        int joints;
        int edges;
        int wellHead;
        /** Bits of EDGES that are CLOSED by hand. */
        int closed;
        final long[] names = new long[MOST_JOINTS];
        final int[] draws = new int[MOST_JOINTS];
        final int[] heights = new int[MOST_JOINTS];
        final int[] firsts = new int[MOST_EDGES];
        final int[] seconds = new int[MOST_EDGES];
        final int[] kinds = new int[MOST_EDGES];
        final int[] resists = new int[MOST_EDGES];
        final int[] liftCounts = new int[MOST_EDGES];
        final int[] lifts = new int[MOST_EDGES * MOST_LIFTS];

        void copyFrom(Net other) {
            joints = other.joints;
            edges = other.edges;
            wellHead = other.wellHead;
            closed = other.closed;
            System.arraycopy(other.names, 0, names, 0, MOST_JOINTS);
            System.arraycopy(other.draws, 0, draws, 0, MOST_JOINTS);
            System.arraycopy(other.heights, 0, heights, 0, MOST_JOINTS);
            System.arraycopy(other.firsts, 0, firsts, 0, MOST_EDGES);
            System.arraycopy(other.seconds, 0, seconds, 0, MOST_EDGES);
            System.arraycopy(other.kinds, 0, kinds, 0, MOST_EDGES);
            System.arraycopy(other.resists, 0, resists, 0, MOST_EDGES);
            System.arraycopy(other.liftCounts, 0, liftCounts, 0, MOST_EDGES);
            System.arraycopy(other.lifts, 0, lifts, 0, MOST_EDGES * MOST_LIFTS);
        }

        void clear() {
            joints = 0;
            edges = 0;
            wellHead = 0;
            closed = 0;
        }

        boolean hasJoint(int j) {
            return j >= 0 && j < joints;
        }

        boolean hasEdge(int e) {
            return e >= 0 && e < edges;
        }

        int jointCalled(long name) {
            for (int j = 0; j < joints; j++) {
                if (names[j] == name) {
                    return j;
                }
            }
            return NONE;
        }

        void addJoint(long name, int drawn, int height) {
            if (joints < MOST_JOINTS) {
                names[joints] = name;
                draws[joints] = drawn;
                heights[joints] = height;
                joints++;
            }
        }

        /** RESIST of a pump is never looked at. */
        void addEdge(int kind, int first, int second, int resistance) {
            if (edges < MOST_EDGES) {
                kinds[edges] = kind;
                firsts[edges] = first;
                seconds[edges] = second;
                resists[edges] = resistance;
                liftCounts[edges] = 0;
                edges++;
            }
        }

        /** Of the latest EDGE. */
        void addLift(int lift) {
            int e = edges - 1;
            if (e >= 0 && liftCounts[e] < MOST_LIFTS) {
                lifts[e * MOST_LIFTS + liftCounts[e]] = lift;
                liftCounts[e]++;
            }
        }

        /** Draws are by hundredths of another's; whether one is unlike what it was. */
        boolean scaleDraws(Net other, int hundredths) {
            boolean isOther = false;
            for (int j = 0; j < joints; j++) {
                int drawn = other.draws[j] * hundredths / 100;
                isOther = isOther || drawn != draws[j];
                draws[j] = drawn;
            }
            return isOther;
        }

        int edgesAt(int j) {
            int bits = 0;
            for (int e = 0; e < edges; e++) {
                if (firsts[e] == j || seconds[e] == j) {
                    bits |= 1 << e;
                }
            }
            return bits;
        }

        int otherEnd(int e, int j) {
            if (firsts[e] == j) {
                return seconds[e];
            }
            return seconds[e] == j ? firsts[e] : NONE;
        }

        boolean isConnected() {
            int reached = 1;
            for (int times = 0; times < joints; times++) {
                for (int e = 0; e < edges; e++) {
                    int ends = 1 << firsts[e] | 1 << seconds[e];
                    if ((reached & ends) != 0) {
                        reached |= ends;
                    }
                }
            }
            return reached == (1 << joints) - 1;
        }

        /** Of a pump 0 less its LIFT. */
        long lossBy(int e, long f) {
            if (kinds[e] != PUMP) {
                return resists[e] * f * Math.abs(f);
            }
            long k = f < 0 ? 0 : f / FLOW_A_LIFT;
            return k < liftCounts[e] ? -100L * lifts[e * MOST_LIFTS + (int) k] : 0;
        }

        long steepBy(int e, long f) {
            return kinds[e] == PUMP ? 1 : resists[e] * (2 * Math.abs(f) + 1);
        }
    }

    /** THE TREE: how JOINTS that are met hang from the well. */
    private static final class Tree {
        /** Bits of JOINTS that are met. */
        int met;
        /** Bits of EDGES of THE TREE. */
        int edges;
        int count;
        /** JOINTS that are met, each behind the one on which it hangs. */
        final int[] queue = new int[MOST_JOINTS];
        final int[] hangsOn = new int[MOST_JOINTS];
        final int[] hangsBy = new int[MOST_JOINTS];
        /** 1 if that EDGE has its SECOND there, -1 if its FIRST. */
        final int[] ways = new int[MOST_JOINTS];
        final int[] depths = new int[MOST_JOINTS];

        void plant(Net net, int open) {
            Arrays.fill(hangsBy, NO_ONE);
            Arrays.fill(hangsOn, 0);
            Arrays.fill(depths, 0);
            met = 1;
            edges = 0;
            queue[0] = 0;
            count = 1;
            for (int i = 0; i < count && i < MOST_JOINTS; i++) {
                spreadFrom(queue[i], net, open);
            }
        }

        private void spreadFrom(int from, Net net, int open) {
            for (int e = 0; e < net.edges; e++) {
                int to = bit(open, e) == 0 ? NONE : net.otherEnd(e, from);
                if (to != NONE && bit(met, to) == 0 && count < MOST_JOINTS) {
                    met |= 1 << to;
                    edges |= 1 << e;
                    hangsOn[to] = from;
                    hangsBy[to] = e;
                    ways[to] = net.seconds[e] == to ? 1 : -1;
                    depths[to] = depths[from] + 1;
                    queue[count] = to;
                    count++;
                }
            }
        }

        int countBehind(int j) {
            int behind = 0;
            for (int i = 0; i < count; i++) {
                int up = queue[i];
                for (int steps = depths[up]; steps > 0; steps--) {
                    up = hangsOn[up];
                    if (up == j) {
                        behind++;
                    }
                }
            }
            return behind;
        }
    }

    /** RINGS: a row of EDGES for each open one beside THE TREE. */
    private static final class Rings {
        /** An EDGE and a way along THE TREE: no longer than there are JOINTS. */
        static final int ROW = MOST_JOINTS;
        int count;
        final int[] lengths = new int[MOST_EDGES];
        final int[] members = new int[MOST_EDGES * ROW];
        /** 1 if the RING goes through the EDGE from FIRST to SECOND, -1 if from SECOND to FIRST. */
        final int[] ways = new int[MOST_EDGES * ROW];
        private final int[] downwards = new int[ROW];

        void find(Net net, Tree tree, int open) {
            count = 0;
            int beside = open & ~tree.edges;
            for (int e = 0; e < net.edges; e++) {
                if (bit(beside, e) == 1 && bit(tree.met, net.firsts[e]) == 1) {
                    lengths[count] = 0;
                    add(e, 1);
                    followTree(tree, net.seconds[e], net.firsts[e]);
                    count++;
                }
            }
        }

        private void followTree(Tree tree, int from, int to) {
            int up = from;
            int down = to;
            int kept = 0;
            for (int steps = 0; steps < 2 * ROW && up != down; steps++) {
                if (tree.depths[up] >= tree.depths[down]) {
                    add(tree.hangsBy[up], -tree.ways[up]);
                    up = tree.hangsOn[up];
                } else if (kept < ROW) {
                    downwards[kept] = down;
                    kept++;
                    down = tree.hangsOn[down];
                }
            }
            for (int i = kept - 1; i >= 0; i--) {
                add(tree.hangsBy[downwards[i]], tree.ways[downwards[i]]);
            }
        }

        private void add(int e, int way) {
            int length = lengths[count];
            if (e >= 0 && length < ROW) {
                members[count * ROW + length] = e;
                ways[count * ROW + length] = way;
                lengths[count] = length + 1;
            }
        }

        int member(int k, int i) {
            return i < lengths[k] ? members[k * ROW + i] : NO_ONE;
        }

        int countThrough(int e) {
            int through = 0;
            for (int k = 0; k < count; k++) {
                for (int i = 0; i < lengths[k]; i++) {
                    if (members[k * ROW + i] == e) {
                        through++;
                    }
                }
            }
            return through;
        }
    }

    /** A net SOLVED: what flows, what is SHUT, what HEADS there are. */
    private static final class Waters {
        final Net net = new Net();
        final Tree tree = new Tree();
        final Rings rings = new Rings();
        final long[] flows = new long[MOST_EDGES];
        final long[] heads = new long[MOST_JOINTS];
        private final long[] carried = new long[MOST_JOINTS];
        /** FLOWS behind keptSweep SWEEPS. */
        private final long[] keptFlows = new long[MOST_EDGES];
        private int keptSweep;
        /** What was SHUT in each ROUND (from 1 on), NONE where that wasn't looked at. */
        private final int[] shutInRound = new int[MOST_ROUNDS + 1];
        /** Bits of EDGES that are SHUT. */
        int shut;
        int rounds;
        int sweeps;
        boolean atRest;

        void solve() {
            shut = 0;
            rounds = 0;
            atRest = false;
            Arrays.fill(shutInRound, NONE);
            while (!atRest && rounds < MOST_ROUNDS) {
                rounds++;
                shutInRound[rounds] = shut;
                beginRound();
                sweepUpTo(MOST_SWEEPS);
                findHeads();
                int turned = edgeToTurn();
                if (turned == NONE) {
                    atRest = true;
                } else if (rounds < MOST_ROUNDS) {
                    shut ^= 1 << turned;
                    rounds += roundsToLeaveOut();
                }
            }
        }

        /** What is SHUT tells all of a ROUND: one that comes again goes round in a circle, left out whole. */
        private int roundsToLeaveOut() {
            for (int r = 1; r <= rounds; r++) {
                int circle = rounds + 1 - r;
                if (shutInRound[r] == shut && circle > 0) {
                    return (MOST_ROUNDS - rounds - 1) / circle * circle;
                }
            }
            return 0;
        }

        /** HEADS are not found: none is asked for. */
        void sweepFirstRound(int limit) {
            shut = 0;
            beginRound();
            sweepUpTo(limit);
        }

        private void beginRound() {
            int open = (1 << net.edges) - 1 & ~net.closed & ~shut;
            tree.plant(net, open);
            rings.find(net, tree, open);
            Arrays.fill(flows, 0);
            Arrays.fill(carried, 0);
            for (int i = tree.count - 1; i > 0; i--) {
                int j = tree.queue[i];
                int e = tree.hangsBy[j];
                carried[j] += net.draws[j];
                carried[tree.hangsOn[j]] += carried[j];
                if (e >= 0) {
                    flows[e] = tree.ways[j] * carried[j];
                }
            }
        }

        private void sweepUpTo(int limit) {
            sweeps = 0;
            keepFlows();
            boolean isMoved = true;
            while (isMoved && sweeps < limit) {
                isMoved = false;
                for (int k = 0; k < rings.count; k++) {
                    long step = nearest(ringSum(k), ringSteep(k));
                    if (step != 0) {
                        isMoved = true;
                        lessen(k, Math.max(-MOST_STEP, Math.min(MOST_STEP, step)));
                    }
                }
                sweeps++;
                sweeps += isMoved ? sweepsToLeaveOut(limit) : 0;
            }
        }

        /** FLOWS that come again go round in a circle of SWEEPS, left out whole. */
        private int sweepsToLeaveOut(int limit) {
            int circle = sweeps - keptSweep;
            if (circle > 0 && areFlowsAsKept()) {
                return (limit - sweeps) / circle * circle;
            }
            // Kept behind 1, 2, 4, 8 .. SWEEPS: so a circle of any length is found in the end.
            if ((sweeps & sweeps - 1) == 0) {
                keepFlows();
            }
            return 0;
        }

        private void keepFlows() {
            System.arraycopy(flows, 0, keptFlows, 0, MOST_EDGES);
            keptSweep = sweeps;
        }

        private boolean areFlowsAsKept() {
            for (int e = 0; e < net.edges; e++) {
                if (flows[e] != keptFlows[e]) {
                    return false;
                }
            }
            return true;
        }

        private void lessen(int k, long step) {
            int start = k * Rings.ROW;
            for (int i = start; i < start + rings.lengths[k]; i++) {
                flows[rings.members[i]] -= rings.ways[i] * step;
            }
        }

        long ringSum(int k) {
            long sum = 0;
            int start = k * Rings.ROW;
            for (int i = start; i < start + rings.lengths[k]; i++) {
                int e = rings.members[i];
                sum += rings.ways[i] * net.lossBy(e, flows[e]);
            }
            return sum;
        }

        long ringSteep(int k) {
            long steep = 0;
            int start = k * Rings.ROW;
            for (int i = start; i < start + rings.lengths[k]; i++) {
                int e = rings.members[i];
                steep += net.steepBy(e, flows[e]);
            }
            return steep;
        }

        /** Of two whole numbers as near the one nearer to 0. */
        private static long nearest(long sum, long steep) {
            if (steep <= 0) {
                return 0;
            }
            long size = (2 * Math.abs(sum) + steep - 1) / (2 * steep);
            return sum < 0 ? -size : size;
        }

        private void findHeads() {
            heads[0] = 100L * net.wellHead;
            for (int i = 1; i < tree.count; i++) {
                int j = tree.queue[i];
                int e = tree.hangsBy[j];
                if (e >= 0) {
                    heads[j] = heads[tree.hangsOn[j]] - tree.ways[j] * net.lossBy(e, flows[e]);
                }
            }
        }

        /** The EDGE that must be SHUT, else the one that must be SHUT no more, else NONE. */
        private int edgeToTurn() {
            for (int e = 0; e < net.edges; e++) {
                // Only open EDGES of met JOINTS have a FLOW that isn't 0.
                if (net.kinds[e] != PIPE && flows[e] < 0) {
                    return e;
                }
            }
            for (int e = 0; e < net.edges; e++) {
                if (bit(shut, e) == 1 && wouldFlow(e)) {
                    return e;
                }
            }
            return NONE;
        }

        private boolean wouldFlow(int e) {
            int first = net.firsts[e];
            int second = net.seconds[e];
            if (bit(tree.met, first) == 0) {
                return false;
            }
            // LOSS by FLOW 0 is 0 less LIFT of a pump, and 0 of a check.
            return bit(tree.met, second) == 0 || heads[second] < heads[first] - net.lossBy(e, 0);
        }

        int dryJoints() {
            return (1 << net.joints) - 1 & ~tree.met;
        }

        int given() {
            int given = 0;
            for (int i = 0; i < tree.count; i++) {
                given += net.draws[tree.queue[i]];
            }
            return given;
        }

        long pressureAt(int j) {
            return j == 0 ? 0 : heads[j] - 100L * net.heights[j];
        }

        int weakestJoint() {
            int weakest = NO_ONE;
            for (int j = 1; j < net.joints; j++) {
                if (bit(tree.met, j) == 1
                        && (weakest == NO_ONE || pressureAt(j) < pressureAt(weakest))) {
                    weakest = j;
                }
            }
            return weakest;
        }

        /** Of JOINTS that aren't DRY; NOTHING if all are. */
        long leastPressure() {
            int weakest = weakestJoint();
            return weakest == NO_ONE ? NOTHING : pressureAt(weakest);
        }

        /** NOTHING, which is less than any PRESSURE, if a JOINT is DRY. */
        long leastPressureOfAll() {
            return dryJoints() == 0 ? leastPressure() : NOTHING;
        }

        long greatestRingSum() {
            long greatest = 0;
            for (int k = 0; k < rings.count; k++) {
                greatest = Math.max(greatest, Math.abs(ringSum(k)));
            }
            return greatest;
        }

        long pumpWork() {
            long done = 0;
            for (int e = 0; e < net.edges; e++) {
                if (net.kinds[e] == PUMP) {
                    done -= flows[e] * net.lossBy(e, flows[e]);
                }
            }
            return done;
        }

        long leftOverAt(int j) {
            long left = bit(tree.met, j) == 1 ? -net.draws[j] : 0;
            for (int e = 0; e < net.edges; e++) {
                if (net.seconds[e] == j) {
                    left += flows[e];
                } else if (net.firsts[e] == j) {
                    left -= flows[e];
                }
            }
            return left;
        }
    }

    /** HEADS that were measured, and where a leak must be by them, once that was asked. */
    private static final class Measures {
        /** Bits of JOINTS. */
        private int measured;
        private final int[] measuredHeads = new int[MOST_JOINTS];
        boolean isLeakFound;
        int leakJoint;
        int leakDraw;
        long leakFar;

        void note(int j, int head) {
            measured |= 1 << j;
            measuredHeads[j] = head;
            isLeakFound = false;
        }

        /** A leak is found by none then, so there is no need to find it anew. */
        void clear() {
            measured = 0;
        }

        int count() {
            return Integer.bitCount(measured);
        }

        long farFrom(Waters waters) {
            long far = 0;
            for (int j = 1; j < MOST_JOINTS; j++) {
                if (bit(measured, j) == 1) {
                    boolean isDry = bit(waters.tree.met, j) == 0;
                    far += isDry ? FAR_IF_DRY : Math.abs(waters.heads[j] - measuredHeads[j]);
                }
            }
            return far;
        }

        void offerLeak(int j, int n, long far) {
            if (far < leakFar) {
                leakJoint = j;
                leakDraw = n;
                leakFar = far;
            }
        }
    }

    /** What can be undone: of each act what there was ahead of it. */
    private static final class Acts {
        int count;
        private final int[] kinds = new int[MOST_ACTS];
        private final int[] places = new int[MOST_ACTS];
        private final int[] olds = new int[MOST_ACTS];

        void note(int kind, int place, int old) {
            if (count >= MOST_ACTS) {
                dropFirst();
            }
            kinds[count] = kind;
            places[count] = place;
            olds[count] = old;
            count++;
        }

        private void dropFirst() {
            count = MOST_ACTS - 1;
            System.arraycopy(kinds, 1, kinds, 0, count);
            System.arraycopy(places, 1, places, 0, count);
            System.arraycopy(olds, 1, olds, 0, count);
        }

        void takeBackLatest(Net net) {
            if (count <= 0) {
                return;
            }
            count--;
            int place = places[count];
            int old = olds[count];
            switch (kinds[count]) {
                case ACT_VALVE:
                    net.closed = net.closed & ~(1 << place) | old << place;
                    break;
                case ACT_DRAW:
                    net.draws[place] = old;
                    break;
                case ACT_WELL:
                    net.wellHead = old;
                    break;
                default:
                    net.resists[place] = old;
            }
        }
    }

    /** Reads a TEXT token by token; the first FAULT ends it, with start at its place. */
    private static final class Reader {
        // WORDS are held as numbers, a byte a letter.
        private static final long WORD_WELL = 0x77656c6cL;
        private static final long WORD_JOINT = 0x6a6f696e74L;
        private static final long WORD_AT = 0x6174L;
        private static final long WORD_PIPE = 0x70697065L;
        private static final long WORD_CHECK = 0x636865636bL;
        private static final long WORD_PUMP = 0x70756d70L;

        private static final int BLANK = 32;
        private static final int END = 0;
        private static final int WORD = 1;
        private static final int WHOLE = 2;
        private static final int SEMICOLON = 3;
        private static final int COMMA = 4;
        private static final int NO_TOKEN = 5;

        /** What is told up to the TOKEN at hand; not for use behind a FAULT. */
        final Net net = new Net();
        private byte[] bytes = new byte[0];
        private int length;
        private int next;
        private int fault;
        /** Where the TOKEN at hand begins. */
        int start;
        private int token;
        private long word;
        private int whole;
        /** Of the LINE at hand. */
        private long name;
        private int first;
        private int second;

        /** The FAULT, 0 without one. */
        int readText(byte[] from, int n) {
            bytes = from;
            length = n;
            next = 0;
            fault = 0;
            net.clear();
            readToken();
            boolean isRead = readWell();
            // Each LINE takes bytes, so there are no more of them than bytes.
            for (int lines = 0; lines < MOST_BYTES && isRead && token == SEMICOLON; lines++) {
                readToken();
                isRead = readLine();
            }
            if (isRead) {
                readEnd();
            }
            return fault;
        }

        private void readEnd() {
            if (token != END) {
                blame(FAULT_FORM);
            } else if (net.joints < 2 || !net.isConnected()) {
                blame(FAULT_LACKS);
            }
        }

        private boolean readWell() {
            if (!takeWord(WORD_WELL) || !takeNewName() || !isWholeWithin(0, MOST_HEAD)) {
                return false;
            }
            net.wellHead = whole;
            net.addJoint(name, 0, 0);
            readToken();
            return true;
        }

        private boolean readLine() {
            if (token != WORD) {
                return blame(FAULT_FORM);
            }
            if (word == WORD_JOINT) {
                return readJoint();
            }
            if (word == WORD_PIPE) {
                return readResisting(PIPE);
            }
            if (word == WORD_CHECK) {
                return readResisting(CHECK);
            }
            return word == WORD_PUMP ? readPump() : blame(FAULT_FORM);
        }

        private boolean readJoint() {
            if (net.joints >= MOST_JOINTS) {
                return blame(FAULT_MANY);
            }
            readToken();
            if (!takeNewName() || !isWholeWithin(0, MOST_DRAW)) {
                return false;
            }
            int drawn = whole;
            readToken();
            if (!takeWord(WORD_AT) || !isWholeWithin(0, MOST_HEIGHT)) {
                return false;
            }
            net.addJoint(name, drawn, whole);
            readToken();
            return true;
        }

        private boolean readResisting(int kind) {
            if (!readEnds() || !isWholeWithin(1, MOST_RESIST)) {
                return false;
            }
            net.addEdge(kind, first, second, whole);
            readToken();
            return true;
        }

        private boolean readPump() {
            if (!readEnds()) {
                return false;
            }
            net.addEdge(PUMP, first, second, 0);
            int highest = MOST_LIFT;
            for (int count = 0; count < MOST_LIFTS; count++) {
                if (!isWholeWithin(0, highest)) {
                    return false;
                }
                highest = whole;
                net.addLift(whole);
                readToken();
                if (token != COMMA) {
                    return true;
                }
                readToken();
            }
            return isWholeWithin(0, highest) && blame(FAULT_MANY);
        }

        /** From a LINE's first WORD on, up to what stands behind the two NAMES. */
        private boolean readEnds() {
            if (net.edges >= MOST_EDGES) {
                return blame(FAULT_MANY);
            }
            readToken();
            first = jointAtHand();
            if (first == NONE) {
                return false;
            }
            readToken();
            second = jointAtHand();
            if (second == NONE) {
                return false;
            }
            if (second == first) {
                return blame(FAULT_NAME);
            }
            readToken();
            return true;
        }

        /** Always false, as what is read goes no further. */
        private boolean blame(int why) {
            fault = why;
            return false;
        }

        private boolean takeWord(long due) {
            if (token != WORD || word != due) {
                return blame(FAULT_FORM);
            }
            readToken();
            return true;
        }

        private boolean takeNewName() {
            if (!isName()) {
                return blame(FAULT_FORM);
            }
            if (net.jointCalled(word) != NONE) {
                return blame(FAULT_NAME);
            }
            name = word;
            readToken();
            return true;
        }

        /** The TOKEN is blamed if it isn't so. */
        private boolean isWholeWithin(int least, int most) {
            if (token != WHOLE) {
                return blame(FAULT_FORM);
            }
            return whole >= least && whole <= most || blame(FAULT_BOUNDS);
        }

        /** NONE, and the TOKEN is blamed, if it is no NAME that was told ahead. */
        private int jointAtHand() {
            int j = isName() ? net.jointCalled(word) : NONE;
            if (j == NONE) {
                blame(isName() ? FAULT_NAME : FAULT_FORM);
            }
            return j;
        }

        private boolean isName() {
            return token == WORD && word != WORD_WELL && word != WORD_JOINT && word != WORD_AT
                    && word != WORD_PIPE && word != WORD_CHECK && word != WORD_PUMP;
        }

        private void readToken() {
            while (next < length && bytes[next] == BLANK) {
                next++;
            }
            start = next;
            if (next >= length) {
                token = END;
            } else if (isLetter(bytes[next])) {
                readWord();
            } else if (isDigit(bytes[next])) {
                readWhole();
            } else {
                token = bytes[next] == ';' ? SEMICOLON : bytes[next] == ',' ? COMMA : NO_TOKEN;
                next++;
            }
        }

        private void readWord() {
            while (next < length && isLetter(bytes[next])) {
                next++;
            }
            token = next - start <= MOST_LETTERS ? WORD : NO_TOKEN;
            word = packed(bytes, start, next);
        }

        private void readWhole() {
            whole = 0;
            while (next < length && isDigit(bytes[next])) {
                whole = 10 * whole + bytes[next] - '0';
                next++;
            }
            token = next - start <= MOST_DIGITS ? WHOLE : NO_TOKEN;
        }

        private static boolean isLetter(int b) {
            return b >= 'a' && b <= 'z';
        }

        private static boolean isDigit(int b) {
            return b >= '0' && b <= '9';
        }

        private static long packed(byte[] from, int begin, int end) {
            long letters = 0;
            for (int i = begin; i < end; i++) {
                letters = letters << 8 | from[i];
            }
            return letters;
        }

        /** The WORD that stands in the first n bytes, blanks aside; 0, which is none, if not one alone does. */
        static long onlyWord(byte[] from, int n) {
            int begin = 0;
            int end = n;
            while (begin < end && from[begin] == BLANK) {
                begin++;
            }
            while (end > begin && from[end - 1] == BLANK) {
                end--;
            }
            for (int i = begin; i < end; i++) {
                if (!isLetter(from[i])) {
                    return 0;
                }
            }
            return end - begin <= MOST_LETTERS ? packed(from, begin, end) : 0;
        }
    }
}
