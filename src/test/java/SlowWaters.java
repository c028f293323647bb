import java.nio.charset.StandardCharsets;
import java.util.ArrayDeque;
import java.util.ArrayList;
import java.util.Arrays;
import java.util.Collections;
import java.util.Deque;
import java.util.HashMap;
import java.util.LinkedHashMap;
import java.util.List;
import java.util.Map;
import java.util.NoSuchElementException;
import java.util.Set;
import java.util.TreeMap;
import java.util.TreeSet;

/**
 * The document once more, written as slowly and plainly as can be, with the Java library and
 * nothing kept that can be found anew: AgreeTest asks it and RingWaters the same questions.
 */
final class SlowWaters {
    static final long NOTHING = Long.MIN_VALUE;
    static final Set<String> KEPT_WORDS = Set.of("well", "joint", "at", "pipe", "check", "pump");

    /** A line of the text that tells an edge. */
    record Edge(String kind, int first, int second, int resist, List<Integer> lifts) {
        boolean oneWay() {
            return !kind.equals("pipe");
        }

        long lift(long f) {
            int k = f < 0 ? 0 : (int) (f / 10);
            return k < lifts.size() ? 100L * lifts.get(k) : 0;
        }

        long loss(long f) {
            if (kind.equals("pump")) {
                return 0 - lift(f);
            }
            return f < 0 ? -(resist * f * f) : resist * f * f;
        }

        long steep(long f) {
            return kind.equals("pump") ? 1 : resist * (2 * Math.abs(f) + 1);
        }

        Edge withResist(int n) {
            return new Edge(kind, first, second, n, lifts);
        }
    }

    /** All that is told; every solving begins from one of these. */
    static final class Plan {
        int well;
        List<String> names = new ArrayList<>();
        List<Integer> draws = new ArrayList<>();
        List<Integer> heights = new ArrayList<>();
        List<Edge> edges = new ArrayList<>();
        Set<Integer> closed = new TreeSet<>();

        Plan copy() {
            Plan p = new Plan();
            p.well = well;
            p.names = new ArrayList<>(names);
            p.draws = new ArrayList<>(draws);
            p.heights = new ArrayList<>(heights);
            p.edges = new ArrayList<>(edges);
            p.closed = new TreeSet<>(closed);
            return p;
        }
    }

    /** An edge of a ring, and whether the ring goes from its first to its second. */
    record Stride(int edge, boolean along) { }

    static final class Solved {
        final Plan plan;
        Set<Integer> shut = new TreeSet<>();
        Map<Integer, Integer> parent = new LinkedHashMap<>();
        Map<Integer, Integer> by = new HashMap<>();
        List<List<Stride>> rings = new ArrayList<>();
        List<List<Stride>> firstRings;
        long[] flows;
        Map<Integer, Long> heads = new HashMap<>();
        List<long[]> history = new ArrayList<>();
        List<long[]> firstHistory;
        int rounds;
        boolean rest;

        Solved(Plan p) {
            plan = p;
            for (rounds = 1; ; rounds++) {
                round();
                if (rounds == 1) {
                    firstHistory = history;
                    firstRings = rings;
                }
                Integer toShut = null;
                Integer toOpen = null;
                for (int e = plan.edges.size() - 1; e >= 0; e--) {
                    Edge g = plan.edges.get(e);
                    if (g.oneWay() && isOpen(e) && met(g.first()) && flows[e] < 0) {
                        toShut = e;
                    }
                    if (shut.contains(e) && met(g.first())
                            && (!met(g.second()) || heads.get(g.second()) < heads.get(g.first()) + g.lift(0))) {
                        toOpen = e;
                    }
                }
                if (toShut == null && toOpen == null) {
                    rest = true;
                    return;
                }
                if (rounds == 20) {
                    return;
                }
                if (toShut != null) {
                    shut.add(toShut);
                } else {
                    shut.remove(toOpen);
                }
            }
        }

        boolean isOpen(int e) {
            return !shut.contains(e) && !plan.closed.contains(e);
        }

        boolean met(int j) {
            return j == 0 || parent.containsKey(j);
        }

        void round() {
            plantTree();
            rings = new ArrayList<>();
            for (int e = 0; e < plan.edges.size(); e++) {
                if (isOpen(e) && met(plan.edges.get(e).first()) && !by.containsValue(e)) {
                    rings.add(ringOf(e));
                }
            }
            flows = new long[plan.edges.size()];
            for (int j : parent.keySet()) {
                for (int up = j; up != 0; up = parent.get(up)) {
                    int e = by.get(up);
                    flows[e] += plan.edges.get(e).second() == up ? plan.draws.get(j) : -plan.draws.get(j);
                }
            }
            history = new ArrayList<>();
            history.add(flows.clone());
            boolean moved;
            do {
                moved = false;
                for (List<Stride> ring : rings) {
                    moved |= putRight(ring);
                }
                history.add(flows.clone());
            } while (moved && history.size() <= 60);
            heads = new HashMap<>();
            heads.put(0, 100L * plan.well);
            for (int j : parent.keySet()) {
                Edge g = plan.edges.get(by.get(j));
                long loss = g.loss(flows[by.get(j)]);
                heads.put(j, heads.get(parent.get(j)) - (g.second() == j ? loss : 0 - loss));
            }
        }

        void plantTree() {
            parent = new LinkedHashMap<>();
            by = new HashMap<>();
            Deque<Integer> queue = new ArrayDeque<>(List.of(0));
            while (!queue.isEmpty()) {
                int j = queue.remove();
                for (int e = 0; e < plan.edges.size(); e++) {
                    Edge g = plan.edges.get(e);
                    if (!isOpen(e) || g.first() != j && g.second() != j) {
                        continue;
                    }
                    int other = g.first() == j ? g.second() : g.first();
                    if (!met(other)) {
                        parent.put(other, j);
                        by.put(other, e);
                        queue.add(other);
                    }
                }
            }
        }

        List<Integer> wayToWell(int j) {
            List<Integer> way = new ArrayList<>();
            for (int up = j; up != 0; up = parent.get(up)) {
                way.add(up);
            }
            return way;
        }

        List<Stride> ringOf(int e) {
            List<Stride> ring = new ArrayList<>();
            ring.add(new Stride(e, true));
            List<Integer> ups = wayToWell(plan.edges.get(e).second());
            List<Integer> downs = wayToWell(plan.edges.get(e).first());
            List<Integer> both = new ArrayList<>(ups);
            both.retainAll(downs);
            ups.removeAll(both);
            downs.removeAll(both);
            Collections.reverse(downs);
            for (int j : ups) {
                ring.add(new Stride(by.get(j), plan.edges.get(by.get(j)).first() == j));
            }
            for (int j : downs) {
                ring.add(new Stride(by.get(j), plan.edges.get(by.get(j)).second() == j));
            }
            return ring;
        }

        long sum(List<Stride> ring, long[] by) {
            long sum = 0;
            for (Stride s : ring) {
                long loss = plan.edges.get(s.edge()).loss(by[s.edge()]);
                sum += s.along() ? loss : 0 - loss;
            }
            return sum;
        }

        long steep(List<Stride> ring, long[] by) {
            long steep = 0;
            for (Stride s : ring) {
                steep += plan.edges.get(s.edge()).steep(by[s.edge()]);
            }
            return steep;
        }

        boolean putRight(List<Stride> ring) {
            long sum = sum(ring, flows);
            long steep = steep(ring, flows);
            long step = sum / steep;
            long rest = Math.abs(sum % steep);
            if (2 * rest > steep) {
                step += sum < 0 ? -1 : 1;
            }
            step = step > 1000 ? 1000 : step < -1000 ? -1000 : step;
            for (Stride s : ring) {
                flows[s.edge()] += s.along() ? -step : step;
            }
            return step != 0;
        }

        long[] early(int n) {
            return firstHistory.get(Math.min(n, firstHistory.size() - 1));
        }

        int dryBits() {
            int bits = 0;
            for (int j = 1; j < plan.names.size(); j++) {
                bits |= met(j) ? 0 : 1 << j;
            }
            return bits;
        }

        TreeMap<Integer, Long> pressures() {
            TreeMap<Integer, Long> all = new TreeMap<>();
            for (int j : parent.keySet()) {
                all.put(j, heads.get(j) - 100L * plan.heights.get(j));
            }
            return all;
        }

        /** Null: all are dry. */
        Long leastPressure() {
            return parent.isEmpty() ? null : Collections.min(pressures().values());
        }

        boolean holds(long p) {
            return dryBits() == 0 && leastPressure() >= p;
        }
    }

    /** A fault, and the token's place. */
    static final class Fault extends Exception {
        private static final long serialVersionUID = 1;
        final int number;
        final int place;

        Fault(int number, int place) {
            this.number = number;
            this.place = place;
        }
    }

    record Token(char kind, String told, int place) { }

    private final StringBuilder tape = new StringBuilder();
    private Plan plan;
    private Solved now;
    private final Deque<Plan> earlier = new ArrayDeque<>();
    private final Map<Integer, Integer> measured = new TreeMap<>();
    private int fault;
    private int where = -1;
    private int trouble;

    // ---- texts

    int feed(int... five) {
        if (tape.length() + 20 > 600) {
            return -1;
        }
        for (int n : five) {
            byte[] four = java.nio.ByteBuffer.allocate(4).putInt(n).array();
            tape.append(new String(four, StandardCharsets.ISO_8859_1));
        }
        return tape.length();
    }

    int text(int n) {
        if (n < 0 || n > tape.length()) {
            return no(2);
        }
        String told = tape.substring(0, n);
        tape.setLength(0);
        try {
            Plan read = parse(told);
            plan = read;
        } catch (Fault f) {
            no(4);
            fault = f.number;
            where = f.place;
            return -1;
        }
        yes();
        fault = 0;
        earlier.clear();
        measured.clear();
        now = new Solved(plan);
        return plan.names.size();
    }

    private static List<Token> tokens(String s) {
        List<Token> all = new ArrayList<>();
        java.util.regex.Matcher m = java.util.regex.Pattern
                .compile("[a-z]+|[0-9]+|[;,]| +|[\\x00-\\xff]", java.util.regex.Pattern.DOTALL).matcher(s);
        while (m.find()) {
            String t = m.group();
            char c = t.charAt(0);
            if (c == ' ') {
                continue;
            }
            char kind = c >= 'a' && c <= 'z' ? (t.length() <= 6 ? 'w' : '?')
                    : c >= '0' && c <= '9' ? (t.length() <= 3 ? 'n' : '?')
                    : c == ';' || c == ',' ? c : '?';
            all.add(new Token(kind, t, m.start()));
        }
        all.add(new Token('$', "", s.length()));
        return all;
    }

    private static Plan parse(String s) throws Fault {
        Plan p = new Plan();
        Deque<Token> left = new ArrayDeque<>(tokens(s));
        boolean first = true;
        while (true) {
            Token head = left.remove();
            String word = head.kind() == 'w' ? head.told() : "";
            if (first ? !word.equals("well") : !List.of("joint", "pipe", "check", "pump").contains(word)) {
                throw new Fault(1, head.place());
            }
            switch (word) {
                case "well":
                    p.names.add(newName(left.remove(), p));
                    p.well = number(left.remove(), 0, 999);
                    p.draws.add(0);
                    p.heights.add(0);
                    break;
                case "joint":
                    if (p.names.size() == 9) {
                        throw new Fault(4, head.place());
                    }
                    p.names.add(newName(left.remove(), p));
                    p.draws.add(number(left.remove(), 0, 60));
                    Token at = left.remove();
                    if (at.kind() != 'w' || !at.told().equals("at")) {
                        throw new Fault(1, at.place());
                    }
                    p.heights.add(number(left.remove(), 0, 300));
                    break;
                default:
                    if (p.edges.size() == 14) {
                        throw new Fault(4, head.place());
                    }
                    int a = oldName(left.remove(), p, -1);
                    int b = oldName(left.remove(), p, a);
                    if (word.equals("pump")) {
                        p.edges.add(new Edge(word, a, b, -2, lifts(left)));
                    } else {
                        p.edges.add(new Edge(word, a, b, number(left.remove(), 1, 20), List.of()));
                    }
            }
            first = false;
            Token next = left.remove();
            if (next.kind() == '$') {
                if (p.names.size() == 1 || !joined(p)) {
                    throw new Fault(5, next.place());
                }
                return p;
            }
            if (next.kind() != ';') {
                throw new Fault(1, next.place());
            }
        }
    }

    private static List<Integer> lifts(Deque<Token> left) throws Fault {
        List<Integer> lifts = new ArrayList<>();
        int most = 300;
        while (true) {
            Token t = left.remove();
            most = number(t, 0, most);
            if (lifts.size() == 6) {
                throw new Fault(4, t.place());
            }
            lifts.add(most);
            if (left.element().kind() != ',') {
                return lifts;
            }
            left.remove();
        }
    }

    private static boolean joined(Plan p) {
        Set<Integer> met = new TreeSet<>(Set.of(0));
        boolean more = true;
        while (more) {
            more = false;
            for (Edge e : p.edges) {
                if (met.contains(e.first()) != met.contains(e.second())) {
                    met.add(e.first());
                    met.add(e.second());
                    more = true;
                }
            }
        }
        return met.size() == p.names.size();
    }

    private static void needName(Token t) throws Fault {
        if (t.kind() != 'w' || KEPT_WORDS.contains(t.told())) {
            throw new Fault(1, t.place());
        }
    }

    private static String newName(Token t, Plan p) throws Fault {
        needName(t);
        if (p.names.contains(t.told())) {
            throw new Fault(3, t.place());
        }
        return t.told();
    }

    private static int oldName(Token t, Plan p, int but) throws Fault {
        needName(t);
        int j = p.names.indexOf(t.told());
        if (j == -1 || j == but) {
            throw new Fault(3, t.place());
        }
        return j;
    }

    private static int number(Token t, int least, int most) throws Fault {
        if (t.kind() != 'n') {
            throw new Fault(1, t.place());
        }
        int n = Integer.parseInt(t.told());
        if (n < least || n > most) {
            throw new Fault(2, t.place());
        }
        return n;
    }

    private int no(int why) {
        trouble = why;
        where = -1;
        return -1;
    }

    private long not(int why) {
        no(why);
        return NOTHING;
    }

    private void yes() {
        trouble = 0;
        where = -1;
    }

    int fault() {
        return fault;
    }

    int where() {
        return where;
    }

    int size() {
        return tape.length();
    }

    int trouble() {
        return trouble;
    }

    int named(int n) throws NoSuchElementException {
        if (plan == null || n < 0 || n > tape.length()) {
            throw new NoSuchElementException();
        }
        int j = plan.names.indexOf(tape.substring(0, n).replaceAll("^ +| +$", ""));
        if (j == -1) {
            throw new NoSuchElementException();
        }
        return j;
    }

    private boolean joint(int j) {
        return plan != null && j >= 0 && j < plan.names.size();
    }

    private boolean edge(int e) {
        return plan != null && e >= 0 && e < plan.edges.size();
    }

    private static int bits(Iterable<Integer> numbers) {
        int bits = 0;
        for (int n : numbers) {
            bits |= 1 << n;
        }
        return bits;
    }

    int about(int what) {
        if (plan == null || what < 0 || what > 10) {
            return no(1);
        }
        yes();
        int given = 0;
        for (int j : now.parent.keySet()) {
            given += plan.draws.get(j);
        }
        return List.of(plan.names.size(), plan.edges.size(), now.rings.size(), now.rest ? 1 : 0, now.rounds,
                now.history.size() - 1, given, earlier.size(), now.dryBits(), bits(now.shut))
                .stream().skip(what).findFirst().orElse(measured.size());
    }

    int edge(int e, int what) {
        if (!edge(e) || what < 0 || what > 7) {
            return no(1);
        }
        yes();
        Edge g = plan.edges.get(e);
        switch (what) {
            case 0: return g.first();
            case 1: return g.second();
            case 2: return List.of("pipe", "check", "pump").indexOf(g.kind());
            case 3: return g.kind().equals("pump") ? -2 : g.resist();
            case 4: return plan.closed.contains(e) ? 1 : 0;
            case 5: return now.shut.contains(e) ? 1 : 0;
            case 6: return now.by.containsValue(e) ? 1 : 0;
            default:
                return (int) now.rings.stream().filter(r -> r.stream().anyMatch(s -> s.edge() == e)).count();
        }
    }

    long flow(int e) {
        if (!edge(e)) {
            return not(1);
        }
        yes();
        return now.flows[e];
    }

    long loss(int e) {
        if (!edge(e)) {
            return not(1);
        }
        yes();
        return plan.edges.get(e).loss(now.isOpen(e) ? now.flows[e] : 0);
    }

    int joint(int j, int what) {
        if (!joint(j) || what < 0 || what > 3) {
            return no(1);
        }
        yes();
        switch (what) {
            case 0: return plan.draws.get(j);
            case 1: return 100 * plan.heights.get(j);
            case 2: return now.by.getOrDefault(j, -2);
            default:
                Set<Integer> there = new TreeSet<>();
                for (int e = 0; e < plan.edges.size(); e++) {
                    if (plan.edges.get(e).first() == j || plan.edges.get(e).second() == j) {
                        there.add(e);
                    }
                }
                return bits(there);
        }
    }

    long head(int j) {
        if (!joint(j)) {
            return not(1);
        }
        if (!now.met(j)) {
            return not(5);
        }
        yes();
        return now.heads.get(j);
    }

    long pressure(int j) {
        long head = head(j);
        if (head == NOTHING) {
            return NOTHING;
        }
        return j == 0 ? 0 : head - 100L * plan.heights.get(j);
    }

    int weakest() {
        if (plan == null) {
            return no(1);
        }
        yes();
        int weakest = -2;
        for (Map.Entry<Integer, Long> p : now.pressures().entrySet()) {
            if (weakest == -2 && p.getValue().equals(now.leastPressure())) {
                weakest = p.getKey();
            }
        }
        return weakest;
    }

    int ring(int k, int i) {
        if (plan == null || k < 0 || k >= now.rings.size() || i < 0) {
            return no(1);
        }
        yes();
        return i < now.rings.get(k).size() ? now.rings.get(k).get(i).edge() : -2;
    }

    long sum(int k, int what) {
        if (plan == null || k < 0 || k >= now.rings.size() || what < 0 || what > 1) {
            return not(1);
        }
        yes();
        return what == 0 ? now.sum(now.rings.get(k), now.flows) : now.steep(now.rings.get(k), now.flows);
    }

    long early(int e, int n) {
        if (!edge(e)) {
            return not(1);
        }
        if (n < 0 || n > 60) {
            return not(2);
        }
        yes();
        return now.early(n)[e];
    }

    long work() {
        if (plan == null) {
            return not(1);
        }
        yes();
        long work = 0;
        for (int e = 0; e < plan.edges.size(); e++) {
            if (plan.edges.get(e).kind().equals("pump") && now.isOpen(e)) {
                work += now.flows[e] * plan.edges.get(e).lift(now.flows[e]);
            }
        }
        return work;
    }

    long gap(int n) {
        if (plan == null) {
            return not(1);
        }
        if (n < 0 || n > 60) {
            return not(2);
        }
        yes();
        return now.firstRings.stream().mapToLong(r -> Math.abs(now.sum(r, now.early(n)))).max().orElse(0);
    }

    long balance(int j) {
        if (!joint(j) || j == 0) {
            return not(1);
        }
        yes();
        long left = now.met(j) ? -plan.draws.get(j) : 0;
        for (int e = 0; e < plan.edges.size(); e++) {
            left += plan.edges.get(e).second() == j ? now.flows[e] : 0;
            left -= plan.edges.get(e).first() == j ? now.flows[e] : 0;
        }
        return left;
    }

    long lossAt(int e, int f, int what) {
        if (!edge(e) || what < 0 || what > 1) {
            return not(1);
        }
        if (Math.abs((long) f) > 10000) {
            return not(2);
        }
        yes();
        return what == 0 ? plan.edges.get(e).loss(f) : plan.edges.get(e).steep(f);
    }

    int behind(int j) {
        if (!joint(j)) {
            return no(1);
        }
        yes();
        int behind = 0;
        for (int i : now.parent.keySet()) {
            behind += i != j && (j == 0 || now.wayToWell(i).contains(j)) ? 1 : 0;
        }
        return behind;
    }

    // ---- on paper

    private Solved withScale(int n) {
        Plan p = plan.copy();
        p.draws.replaceAll(d -> d * n / 100);
        return new Solved(p);
    }

    private Solved withMore(int j, int n) {
        Plan p = plan.copy();
        p.draws.set(j, p.draws.get(j) + n);
        return new Solved(p);
    }

    private int dryWithout(Integer... edges) {
        Plan p = plan.copy();
        p.closed.addAll(Arrays.asList(edges));
        return new Solved(p).dryBits();
    }

    long scaled(int n) {
        if (plan == null) {
            return not(1);
        }
        if (n < 0 || n > 300) {
            return not(2);
        }
        Solved s = withScale(n);
        if (s.dryBits() != 0) {
            return not(5);
        }
        yes();
        return s.leastPressure();
    }

    int most(int p) {
        if (plan == null) {
            return no(1);
        }
        if (p < -30000 || p > 90000) {
            return no(2);
        }
        yes();
        int most = -2;
        for (int n = 0; n <= 300; n++) {
            if (withScale(n).holds(p)) {
                most = n;
            }
        }
        return most;
    }

    private boolean isVital(int e) {
        return (dryWithout(e) & ~now.dryBits()) != 0;
    }

    int pairs() {
        if (plan == null) {
            return no(1);
        }
        yes();
        List<Integer> fit = new ArrayList<>();
        for (int e = 0; e < plan.edges.size(); e++) {
            if (!plan.closed.contains(e) && !isVital(e)) {
                fit.add(e);
            }
        }
        int pairs = 0;
        for (int d : fit) {
            for (int e : fit) {
                pairs += d < e && (dryWithout(d, e) & ~now.dryBits()) != 0 ? 1 : 0;
            }
        }
        return pairs;
    }

    int fire(int j, int p) {
        if (!joint(j) || j == 0) {
            return no(1);
        }
        if (p < -30000 || p > 90000) {
            return no(2);
        }
        yes();
        int most = -2;
        for (int n = 0; n <= 60; n++) {
            if (withMore(j, n).holds(p)) {
                most = n;
            }
        }
        return most;
    }

    int cut(int e) {
        if (!edge(e)) {
            return no(1);
        }
        yes();
        return dryWithout(e);
    }

    int vital() {
        if (plan == null) {
            return no(1);
        }
        yes();
        Set<Integer> vital = new TreeSet<>();
        for (int e = 0; e < plan.edges.size(); e++) {
            if (isVital(e)) {
                vital.add(e);
            }
        }
        return bits(vital);
    }

    /** By the pressure that each edge would give. */
    private Map<Integer, Long> widenings() {
        Map<Integer, Long> all = new TreeMap<>();
        for (int e = 0; e < plan.edges.size(); e++) {
            Edge g = plan.edges.get(e);
            if (g.kind().equals("pump") || g.resist() == 1 || plan.closed.contains(e)) {
                continue;
            }
            Plan p = plan.copy();
            p.edges.set(e, g.withResist(g.resist() - 1));
            Long least = new Solved(p).leastPressure();
            if (least != null) {
                all.put(e, least);
            }
        }
        return all;
    }

    int widen() {
        if (plan == null) {
            return no(1);
        }
        yes();
        Map<Integer, Long> all = widenings();
        for (int e : all.keySet()) {
            if (all.get(e).equals(Collections.max(all.values()))) {
                return e;
            }
        }
        return -2;
    }

    long widened() {
        if (plan == null) {
            return not(1);
        }
        Map<Integer, Long> all = widenings();
        if (all.isEmpty()) {
            return not(5);
        }
        yes();
        return Collections.max(all.values());
    }

    // ---- leaks

    int measure(int j, int head) {
        if (!joint(j) || j == 0) {
            return no(1);
        }
        if (head < -900000 || head > 900000) {
            return no(2);
        }
        yes();
        measured.put(j, head);
        return measured.size();
    }

    int forget() {
        if (plan == null) {
            return no(1);
        }
        yes();
        int had = measured.size();
        measured.clear();
        return had;
    }

    private long far(Solved s) {
        long far = 0;
        for (Map.Entry<Integer, Integer> m : measured.entrySet()) {
            far += s.met(m.getKey()) ? Math.abs(s.heads.get(m.getKey()) - m.getValue()) : 1000000;
        }
        return far;
    }

    long off(int j, int n) {
        if (!joint(j) || j == 0) {
            return not(1);
        }
        if (n < 0 || n > 40) {
            return not(2);
        }
        if (measured.isEmpty()) {
            return not(5);
        }
        yes();
        return far(withMore(j, n));
    }

    long leak(int what) {
        if (plan == null || what < 0 || what > 2) {
            return not(1);
        }
        if (measured.isEmpty()) {
            return not(5);
        }
        yes();
        long[] best = null;
        for (int j = plan.names.size() - 1; j >= 1; j--) {
            for (int n = 40; n >= 1; n--) {
                long far = far(withMore(j, n));
                if (best == null || far <= best[2]) {
                    best = new long[] {j, n, far};
                }
            }
        }
        return best[what];
    }

    // ---- acts

    private void act(Plan next) {
        yes();
        earlier.addLast(plan);
        if (earlier.size() > 12) {
            earlier.removeFirst();
        }
        plan = next;
        now = new Solved(plan);
    }

    int valve(int e, boolean is) {
        if (!edge(e)) {
            return no(1);
        }
        if (plan.closed.contains(e) == is) {
            return no(5);
        }
        Plan p = plan.copy();
        if (is) {
            p.closed.add(e);
        } else {
            p.closed.remove(e);
        }
        act(p);
        return Integer.bitCount(now.dryBits());
    }

    int draw(int j, int n) {
        if (!joint(j) || j == 0) {
            return no(1);
        }
        if (n < 0 || n > 60) {
            return no(2);
        }
        Plan p = plan.copy();
        int was = p.draws.set(j, n);
        act(p);
        return was;
    }

    int well(int n) {
        if (plan == null) {
            return no(1);
        }
        if (n < 0 || n > 999) {
            return no(2);
        }
        Plan p = plan.copy();
        int was = p.well;
        p.well = n;
        act(p);
        return was;
    }

    int resist(int e, int n) {
        if (!edge(e)) {
            return no(1);
        }
        Edge g = plan.edges.get(e);
        if (g.kind().equals("pump")) {
            return no(5);
        }
        if (n < 1 || n > 20) {
            return no(2);
        }
        Plan p = plan.copy();
        p.edges.set(e, g.withResist(n));
        act(p);
        return g.resist();
    }

    int undo() {
        if (plan == null) {
            return no(1);
        }
        if (earlier.isEmpty()) {
            return no(5);
        }
        yes();
        plan = earlier.removeLast();
        now = new Solved(plan);
        return earlier.size();
    }
}
