import static java.lang.Integer.MAX_VALUE;
import static java.lang.Integer.MIN_VALUE;

/** Promises 30 to 33: measured heads, and where a leak must be by them. */
public final class LeakTest {
    private static final String ROW = "well w 10;joint a 1 at 0;joint b 1 at 0;pipe w a 1;pipe a b 1";

    public static void main(String[] args) {
        measuring();
        howFarOff();
        leaks();
        leaksAnew();
        Check.end();
    }

    /** Promises 30 and 31. */
    private static void measuring() {
        RingWaters x = Tape.told(ROW);
        Check.answers("none to forget", x, x.forget(), 0);
        Check.answers("b", x, x.measure(2, 900000), 1);
        Check.answers("b anew", x, x.measure(2, -900000), 1);
        Check.answers("off by the latest", x, x.off(1, 0), 900000 + 995);
        Check.answers("a", x, x.measure(1, 0), 2);
        Check.answers("about", x, x.about(10), 2);
        for (int bad : new int[] {-900001, 900001, MIN_VALUE, MAX_VALUE}) {
            Check.refused("measure " + bad, x, x.measure(1, bad), 2);
            Check.refused("measure the well " + bad, x, x.measure(0, bad), 1);
        }
        for (int bad : new int[] {-1, 0, 3, MIN_VALUE, MAX_VALUE}) {
            Check.refused("measure at " + bad, x, x.measure(bad, 0), 1);
        }
        x.draw(1, 2);
        Check.answers("acts leave it", x, x.about(10), 2);
        x.undo();
        Check.answers("undo leaves it", x, x.about(10), 2);
        Check.answers("measuring is no act", x, x.about(7), 0);
        Check.answers("forget", x, x.forget(), 2);
        Check.answers("forgotten", x, x.about(10), 0);
        Check.answers("forget again", x, x.forget(), 0);
        Check.answers("anew", x, x.measure(1, 5), 1);
    }

    /** Promise 32. */
    private static void howFarOff() {
        RingWaters x = Tape.told(ROW);
        Check.nothing("none measured", x, x.off(1, 0), 5);
        Check.nothing("none measured, a bad number", x, x.off(1, 41), 2);
        x.measure(1, 975);
        Check.answers("off 0", x, x.off(1, 0), 21);
        Check.answers("off 2", x, x.off(1, 2), 9);
        Check.answers("off 3", x, x.off(1, 3), 0);
        Check.answers("off 4", x, x.off(1, 4), 11);
        Check.answers("off 40", x, x.off(1, 40), 42 * 42 - 25);
        Check.answers("at b", x, x.off(2, 2), 9);
        x.measure(2, 1000);
        Check.answers("both, 2 at a", x, x.off(1, 2), 9 + 17);
        Check.answers("both, 2 at b", x, x.off(2, 2), 9 + 16 + 9);
        for (int bad : new int[] {-1, 41, MIN_VALUE, MAX_VALUE}) {
            Check.nothing("off " + bad, x, x.off(1, bad), 2);
            Check.nothing("off at the well, " + bad, x, x.off(0, bad), 1);
        }
        for (int bad : new int[] {-1, 0, 3, MIN_VALUE, MAX_VALUE}) {
            Check.nothing("off at " + bad, x, x.off(bad, 0), 1);
        }
        x.valve(1, true);
        Check.answers("b is dry", x, x.off(1, 0), 1000000 + 24);
        Check.answers("b draws nothing more", x, x.off(2, 40), 1000000 + 24);
        x.valve(0, true);
        Check.answers("both are dry", x, x.off(1, 0), 2000000);
    }

    /** Promise 33. */
    private static void leaks() {
        RingWaters x = Tape.told(ROW);
        Check.nothing("none measured", x, x.leak(0), 5);
        Check.nothing("none measured, a bad what", x, x.leak(3), 1);
        x.measure(1, 975);
        leak("3 at a as good as 3 at b", x, 1, 3, 0);
        x.measure(2, 959);
        leak("3 at b", x, 2, 3, 0);
        x.measure(1, 996);
        x.measure(2, 995);
        leak("none, but 1 or more", x, 1, 1, 10);
        x.measure(1, -900000);
        // At a whatever is more makes b as much further as a nearer: of like ones the least.
        leak("all alike at a", x, 1, 1, 900000 + 996);
        x.forget();
        x.measure(1, -900000);
        leak("40 at a", x, 1, 40, 900000 + 1000 - 42 * 42);
        for (int bad : new int[] {-1, 3, MIN_VALUE, MAX_VALUE}) {
            Check.nothing("leak " + bad, x, x.leak(bad), 1);
        }
        x.forget();
        Check.nothing("forgotten", x, x.leak(1), 5);
        x.measure(2, 0);
        x.valve(1, true);
        leak("dry whatever is drawn: the first, the least", x, 1, 1, 1000000);
        x = Tape.told("well w 10;joint a 0 at 0;pipe w a 1");
        x.measure(1, 1000 - 10);
        leak("3 makes 991", x, 1, 3, 1);
        x.measure(1, 1000 - 65);
        leak("8 makes 936", x, 1, 8, 1);
        x = Tape.told("well w 10;joint a 0 at 0;pipe w a 2");
        x.measure(1, 1000 - 5);
        leak("1 makes 998, 2 makes 992: like ones", x, 1, 1, 3);
    }

    /** What was found once is found anew behind whatever changes it. */
    private static void leaksAnew() {
        RingWaters x = Tape.told(ROW);
        x.measure(1, 975);
        leak("at first", x, 1, 3, 0);
        x.draw(1, 2);
        leak("behind draw", x, 1, 2, 0);
        x.undo();
        leak("behind undo", x, 1, 3, 0);
        x.resist(0, 5);
        leak("behind resist", x, 1, 1, 20);
        x.undo();
        leak("behind undo, too", x, 1, 3, 0);
        x.well(11);
        leak("behind well", x, 1, 9, 4);
        x.undo();
        x.valve(0, true);
        leak("behind valve", x, 1, 1, 1000000);
        x.undo();
        x.measure(1, 964);
        leak("behind measure", x, 1, 4, 0);
        x.forget();
        x.measure(2, 1000 - 16 - 9);
        leak("behind forget", x, 2, 2, 0);
        Tape.tell(x, "well w 20;joint a 1 at 0;joint b 1 at 0;pipe w a 1;pipe a b 1");
        Check.nothing("behind a text", x, x.leak(0), 5);
        x.measure(1, 1975);
        leak("of the new text", x, 1, 3, 0);
    }

    private static void leak(String what, RingWaters x, long j, long n, long far) {
        Check.answers(what + ", where", x, x.leak(0), j);
        Check.answers(what + ", how much", x, x.leak(1), n);
        Check.answers(what + ", how far", x, x.leak(2), far);
    }
}
