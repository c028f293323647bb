import static java.lang.Integer.MAX_VALUE;
import static java.lang.Integer.MIN_VALUE;

/** Promises 22 to 29: what would be; nothing changes by being asked. */
public final class PaperTest {
    private static final String ONE_PIPE = "well w 10;joint a 1 at 0;pipe w a 20";
    private static final String TWO_PIPES = "well w 10;joint a 1 at 0;joint b 0 at 9;pipe w a 1;pipe w b 1";
    private static final String ROW = "well w 10;joint a 2 at 0;joint b 2 at 0;pipe w a 3;pipe a b 2";

    public static void main(String[] args) {
        scaling();
        theMost();
        fires();
        cutsAndVitals();
        pairsOfEdges();
        widening();
        nothingChanges();
        Check.end();
    }

    /** Promise 22. */
    private static void scaling() {
        RingWaters x = Tape.told(ONE_PIPE);
        int[] scales = {0, 99, 100, 199, 200, 299, 300};
        long[] due = {1000, 1000, 980, 980, 920, 920, 820};
        for (int i = 0; i < scales.length; i++) {
            Check.answers("scaled " + scales[i], x, x.scaled(scales[i]), due[i]);
        }
        for (int bad : new int[] {-1, 301, MIN_VALUE, MAX_VALUE}) {
            Check.nothing("scaled " + bad, x, x.scaled(bad), 2);
        }
        x.draw(1, 3);
        Check.answers("draws as they are", x, x.scaled(100), 820);
        // With nothing drawn the check stands in nobody's way.
        x = Tape.told(NetTest.CHECKED);
        Check.answers("scaled 0", x, x.scaled(0), 1000);
        Check.answers("scaled 33", x, x.scaled(33), 998);
        Check.nothing("scaled 34", x, x.scaled(34), 5);
        Check.nothing("scaled 100", x, x.scaled(100), 5);
        Check.nothing("scaled 301, dry or not", x, x.scaled(301), 2);
        x = Tape.told(NetTest.RING);
        Check.answers("the ring by 200", x, x.scaled(200), 2600);
    }

    /** Promise 23. */
    private static void theMost() {
        RingWaters x = Tape.told(ONE_PIPE);
        int[] pressures = {-30000, 820, 821, 920, 921, 980, 981, 1000, 1001, 90000};
        int[] due = {300, 300, 299, 299, 199, 199, 99, 99, -2, -2};
        for (int i = 0; i < pressures.length; i++) {
            Check.answers("most " + pressures[i], x, x.most(pressures[i]), due[i]);
        }
        for (int bad : new int[] {-30001, 90001, MIN_VALUE, MAX_VALUE}) {
            Check.refused("most " + bad, x, x.most(bad), 2);
        }
        x = Tape.told(NetTest.CHECKED);
        Check.answers("none dry up to 33", x, x.most(0), 33);
        Check.answers("a draws nothing up to 19", x, x.most(999), 19);
        Check.answers("by none", x, x.most(1001), -2);
        x.valve(0, true);
        Check.answers("dry by all", x, x.most(-30000), -2);
        x = Tape.told("well w 10;joint a 0 at 0;pipe w a 1");
        Check.answers("nothing to scale", x, x.most(1000), 300);
        Check.answers("nothing to scale, too high", x, x.most(1001), -2);
    }

    /** Promise 25. */
    private static void fires() {
        RingWaters x = Tape.told("well w 10;joint a 1 at 0;pipe w a 1");
        int[] pressures = {-30000, -2721, -2720, 975, 976, 996, 999, 1000, 90000};
        int[] due = {60, 60, 59, 4, 3, 1, 0, -2, -2};
        for (int i = 0; i < pressures.length; i++) {
            Check.answers("fire " + pressures[i], x, x.fire(1, pressures[i]), due[i]);
        }
        for (int bad : new int[] {-30001, 90001, MIN_VALUE, MAX_VALUE}) {
            Check.refused("fire " + bad, x, x.fire(1, bad), 2);
            Check.refused("fire at the well", x, x.fire(0, bad), 1);
        }
        for (int bad : new int[] {-1, 0, 2, MIN_VALUE, MAX_VALUE}) {
            Check.refused("fire at " + bad, x, x.fire(bad, 0), 1);
        }
        x = Tape.told(TWO_PIPES);
        Check.answers("each pressure, not only there", x, x.fire(1, 101), -2);
        Check.answers("29 at a", x, x.fire(1, 100), 29);
        Check.answers("0 at b", x, x.fire(2, 100), 0);
        Check.answers("10 at b", x, x.fire(2, 0), 10);
        x.valve(1, true);
        Check.answers("one is dry", x, x.fire(1, -30000), -2);
        x = Tape.told("well w 0;joint a 60 at 0;pipe w a 1");
        Check.answers("beyond what may be told", x, x.fire(1, -14400), 60);
        Check.answers("one less", x, x.fire(1, -14399), 59);
    }

    /** Promises 26 and 27. */
    private static void cutsAndVitals() {
        RingWaters x = Tape.told(ROW);
        Check.answers("cut 0", x, x.cut(0), 6);
        Check.answers("cut 1", x, x.cut(1), 4);
        Check.answers("vital", x, x.vital(), 3);
        for (int bad : new int[] {-1, 2, MIN_VALUE, MAX_VALUE}) {
            Check.refused("cut " + bad, x, x.cut(bad), 1);
        }
        x.valve(1, true);
        Check.answers("cut what is closed", x, x.cut(1), 4);
        Check.answers("cut the other", x, x.cut(0), 6);
        Check.answers("one is closed", x, x.vital(), 1);
        x.valve(0, true);
        Check.answers("all dry", x, x.vital(), 0);
        Check.answers("cut, all dry", x, x.cut(1), 6);
        x = Tape.told(NetTest.CHECKED);
        Check.answers("cut the pipe", x, x.cut(0), 6);
        Check.answers("cut the shut", x, x.cut(1), 4);
        Check.answers("the shut is not vital", x, x.vital(), 1);
        // Both ways reach b, but one is a check that water would go through backwards.
        x = Tape.told("well w 10;joint a 1 at 0;joint b 1 at 0;pipe w a 1;pipe w b 1;check a b 1");
        Check.answers("cut b's pipe", x, x.cut(1), 0);
        Check.answers("cut a's pipe", x, x.cut(0), 2);
        Check.answers("vital by a check", x, x.vital(), 1);
        x = Tape.told(NetTest.TWO_RINGS);
        Check.answers("none vital", x, x.vital(), 0);
        for (int e = 0; e < 5; e++) {
            Check.answers("cut " + e, x, x.cut(e), 0);
        }
        x.valve(3, true);
        Check.answers("c hangs by one", x, x.vital(), 4);
        Check.answers("c were dry", x, x.cut(2), 8);
    }

    /** Promise 24. */
    private static void pairsOfEdges() {
        RingWaters x = Tape.told(NetTest.TWO_RINGS);
        Check.answers("pairs", x, x.pairs(), 2);
        x.valve(4, true);
        // A ring of four: any two of its edges cut something off.
        Check.answers("without the fifth", x, x.pairs(), 6);
        x.valve(0, true);
        Check.answers("all in a row are vital", x, x.pairs(), 0);
        x = Tape.told(ROW);
        Check.answers("vital ones make no pairs", x, x.pairs(), 0);
        x = Tape.told("well w 10;joint a 1 at 0;pipe w a 1;pipe w a 2;pipe a w 3");
        Check.answers("three, none of two", x, x.pairs(), 0);
        x.valve(2, true);
        Check.answers("two", x, x.pairs(), 1);
        x = Tape.told("well w 10;joint a 1 at 0;joint b 1 at 0;pipe w a 1;pipe w a 2;pipe a b 1");
        Check.answers("both of a's, the third is vital", x, x.pairs(), 1);
    }

    /** Promises 28 and 29. */
    private static void widening() {
        RingWaters x = Tape.told(ROW);
        widening("the first pipe", x, 0, 960);
        x.resist(0, 1);
        widening("resist 1 can't be less", x, 1, 1000 - 16 - 4);
        x.resist(1, 1);
        notWidened("all are 1", x);
        x.undo();
        x.valve(0, true);
        notWidened("all dry then", x);
        x = Tape.told("well w 10;joint a 1 at 0;joint b 1 at 9;joint c 1 at 0;pipe w b 1;pipe w a 2;pipe w c 2");
        widening("the first of like ones", x, 1, 99);
        x.valve(1, true);
        widening("not the closed", x, 2, 99);
        x.valve(2, true);
        notWidened("the last is closed", x);
        x = Tape.told(NetTest.CHECKED);
        widening("the dry aside", x, 0, 8975);
        x.resist(0, 1);
        widening("a shut check helps nobody, but is one", x, 1, 10000 - 25 - 1000);
        notWidened("pumps are none", Tape.told(NetTest.PUMPED));
        widening("a ring", Tape.told(NetTest.RING), 2, 2919);
    }

    private static void widening(String what, RingWaters x, int e, long least) {
        Check.answers(what + ", widen", x, x.widen(), e);
        Check.answers(what + ", widened", x, x.widened(), least);
    }

    private static void notWidened(String what, RingWaters x) {
        Check.answers(what + ", widen", x, x.widen(), -2);
        Check.nothing(what + ", widened", x, x.widened(), 5);
    }

    private static void nothingChanges() {
        RingWaters x = Tape.told(NetTest.RING);
        x.draw(2, 20);
        x.measure(1, 4000);
        x.scaled(300);
        x.most(0);
        x.pairs();
        x.fire(1, 0);
        x.cut(0);
        x.vital();
        x.widen();
        x.widened();
        x.off(2, 9);
        x.leak(0);
        x.early(0, 3);
        x.gap(3);
        long[] flows = {18, 8, 12};
        for (int e = 0; e < 3; e++) {
            Check.answers("flow " + e, x, x.flow(e), flows[e]);
            Check.answers("resist " + e, x, x.edge(e, 3), e + 1);
            Check.answers("open " + e, x, x.edge(e, 4), 0);
        }
        Check.answers("draw of a", x, x.joint(1, 0), 10);
        Check.answers("draw of b", x, x.joint(2, 0), 20);
        Check.answers("head of b", x, x.head(2), 4568);
        Check.answers("sweeps", x, x.about(5), 2);
        Check.answers("acts", x, x.about(7), 1);
        Check.answers("measured", x, x.about(10), 1);
        Check.answers("given", x, x.about(6), 30);
    }
}
