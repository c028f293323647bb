import java.lang.reflect.InvocationTargetException;
import java.lang.reflect.Method;
import java.util.ArrayList;
import java.util.Comparator;
import java.util.List;
import java.util.Random;

/** RingWaters answers runs of calls made by chance just as SlowWaters does, up to the 512th: later ones are free. */
public final class AgreeTest {
    private static final int RUNS = 1000;
    private static final int MOST_CALLS = 512;
    /** What the dearest turn takes (a TEXT of 600 bytes), and the last look at all EDGES. */
    private static final int CALLS_A_TURN = 110;
    private static final int CALLS_AT_THE_END = 60;
    private static final List<String> DEAR = List.of("most", "pairs", "fire", "leak");

    private final Random chance;
    private final Nets nets;
    private final RingWaters fast = new RingWaters();
    private final SlowWaters slow = new SlowWaters();
    private final List<String> calls = new ArrayList<>();
    private final List<Method> face = new ArrayList<>();
    private boolean agrees = true;
    private int asked;

    private AgreeTest(long seed) {
        chance = new Random(seed);
        nets = new Nets(chance);
        for (Method m : RingWaters.class.getMethods()) {
            if (m.getDeclaringClass() == RingWaters.class) {
                face.add(m);
            }
        }
        face.sort(Comparator.comparing(Method::getName));
    }

    public static void main(String[] args) throws Exception {
        int runs = args.length > 0 ? Integer.parseInt(args[0]) : RUNS;
        long firstSeed = args.length > 1 ? Long.parseLong(args[1]) : 1;
        int bad = 0;
        for (long seed = firstSeed; seed < firstSeed + runs && bad < 5; seed++) {
            AgreeTest run = new AgreeTest(seed);
            run.go();
            if (!run.agrees) {
                bad++;
                System.out.println("seed " + seed + ": " + String.join("\n    ", run.calls));
            }
        }
        System.out.println(bad == 0 ? runs + " runs agree" : "runs do not agree");
        System.exit(bad == 0 ? 0 : 1);
    }

    private void go() throws Exception {
        tell();
        while (agrees && asked + CALLS_A_TURN + CALLS_AT_THE_END <= MOST_CALLS) {
            int kind = chance.nextInt(100);
            if (kind < 3) {
                tell();
            } else if (kind < 5) {
                askName();
            } else {
                Method m = face.get(chance.nextInt(face.size()));
                if (!DEAR.contains(m.getName()) || chance.nextInt(12) == 0) {
                    both(m, arguments(m));
                }
            }
        }
        for (int e = 0; e < 14 && agrees; e++) {
            both("flow", e);
            both("edge", e, 5);
        }
    }

    private void feed(String text) throws Exception {
        for (int[] five : Tape.numbers(text)) {
            both("feed", five[0], five[1], five[2], five[3], five[4]);
        }
    }

    private void tell() throws Exception {
        String text = chance.nextInt(4) == 0 ? nets.spoilt() : nets.net();
        if (slow.size() > 0) {
            both("text", 0);
        }
        feed(text);
        both("text", chance.nextInt(12) == 0 ? chance.nextInt(text.length() + 1) : text.length());
        both("fault");
        both("where");
        for (int what = 0; what <= 10; what++) {
            both("about", what);
        }
    }

    private void askName() throws Exception {
        if (slow.size() > 0) {
            both("text", 0);
        }
        feed(" ".repeat(chance.nextInt(3)) + List.of("a", "w", "b", "c", "dd", "fgh", "tankxx", "tank", "a b", "", "A")
                .get(chance.nextInt(11)));
        for (int n = 0; n <= 21; n += 1 + chance.nextInt(6)) {
            both("named", n);
        }
    }

    private Object[] arguments(Method m) {
        Class<?>[] types = m.getParameterTypes();
        Object[] given = new Object[types.length];
        for (int i = 0; i < types.length; i++) {
            given[i] = types[i] == boolean.class ? (Object) chance.nextBoolean() : (Object) number(m.getName(), i);
        }
        return given;
    }

    private int number(String name, int place) {
        if (chance.nextInt(60) == 0) {
            int[] odd = {-1, Integer.MIN_VALUE, Integer.MAX_VALUE, 61, 301, 1000, -10001, 10001, 41, 21, 90001};
            return odd[chance.nextInt(odd.length)];
        }
        switch (name + place) {
            case "about0": return chance.nextInt(12);
            case "edge0": case "flow0": case "loss0": case "cut0": case "valve0": case "resist0":
            case "early0": case "lossAt0":
                return chance.nextInt(15);
            case "edge1": return chance.nextInt(9);
            case "joint0": case "head0": case "pressure0": case "balance0": case "behind0": case "fire0":
            case "measure0": case "off0": case "draw0":
                return chance.nextInt(10);
            case "joint1": return chance.nextInt(5);
            case "ring0": case "sum0": return chance.nextInt(8);
            case "ring1": return chance.nextInt(10);
            case "sum1": case "lossAt2": return chance.nextInt(3);
            case "early1": case "gap0": return chance.nextInt(chance.nextBoolean() ? 62 : 6);
            case "lossAt1": return chance.nextInt(chance.nextBoolean() ? 120 : 10002) * (chance.nextBoolean() ? 1 : -1);
            case "scaled0": return chance.nextInt(302);
            case "most0": case "fire1": return chance.nextInt(chance.nextBoolean() ? 12000 : 120000) - 30000;
            case "measure1": return chance.nextInt(chance.nextBoolean() ? 10000 : 1800001) - 1000;
            case "off1": return chance.nextInt(42);
            case "leak0": return chance.nextInt(4);
            case "draw1": return chance.nextInt(62);
            case "well0": return chance.nextInt(1001);
            case "resist1": return chance.nextInt(22);
            case "text0": case "named0": return chance.nextInt(4) == 0 ? slow.size() : chance.nextInt(610) - 5;
            default: return chance.nextInt();
        }
    }

    private void both(String name, Object... given) throws Exception {
        for (Method m : face) {
            if (m.getName().equals(name)) {
                both(m, given);
            }
        }
    }

    private void both(Method m, Object[] given) throws Exception {
        String due;
        if (m.getName().equals("feed")) {
            due = "" + slow.feed((Integer) given[0], (Integer) given[1], (Integer) given[2], (Integer) given[3],
                    (Integer) given[4]);
        } else {
            due = answer(SlowWaters.class.getDeclaredMethod(m.getName(), m.getParameterTypes()), slow, given);
        }
        String got = answer(m, fast, given);
        calls.add(m.getName() + java.util.Arrays.toString(given) + " = " + due);
        check(got, due);
        check("" + fast.trouble(), "" + slow.trouble());
        asked += 2;
        if (asked > MOST_CALLS) {
            throw new IllegalStateException("more calls than an object is used for");
        }
    }

    private void check(String got, String due) {
        if (agrees && !got.equals(due)) {
            agrees = false;
            calls.add("  answered " + got + ", due is " + due);
        }
    }

    private static String answer(Method m, Object of, Object[] given) throws Exception {
        try {
            return "" + m.invoke(of, given);
        } catch (InvocationTargetException thrown) {
            return "throws " + thrown.getCause().getClass().getName();
        }
    }
}
