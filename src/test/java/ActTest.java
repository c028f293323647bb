import static java.lang.Integer.MAX_VALUE;
import static java.lang.Integer.MIN_VALUE;

/** Promises 34 to 38: acts, and undoing them. */
public final class ActTest {
    private static final String ROW = "well w 10;joint a 1 at 0;joint b 1 at 0;pipe w a 1;pipe a b 1";

    public static void main(String[] args) {
        valves();
        draws();
        wells();
        resists();
        undoing();
        twelveAtMost();
        Check.end();
    }

    /** Promise 34. */
    private static void valves() {
        RingWaters x = Tape.told(ROW);
        Check.refused("open already", x, x.valve(0, false), 5);
        Check.answers("close b's", x, x.valve(1, true), 1);
        Check.answers("closed", x, x.edge(1, 4), 1);
        Check.answers("what is left", x, x.flow(0), 1);
        Check.refused("closed already", x, x.valve(1, true), 5);
        Check.answers("close a's", x, x.valve(0, true), 2);
        Check.answers("open b's", x, x.valve(1, false), 2);
        Check.answers("open a's", x, x.valve(0, false), 0);
        Check.answers("flow again", x, x.flow(0), 2);
        Check.answers("four acts", x, x.about(7), 4);
        for (int bad : new int[] {-1, 2, MIN_VALUE, MAX_VALUE}) {
            Check.refused("valve " + bad, x, x.valve(bad, true), 1);
        }
        Check.answers("none by refused ones", x, x.about(7), 4);
        // What is SHUT is not CLOSED by hand.
        x = Tape.told(NetTest.CHECKED);
        Check.refused("shut, not closed", x, x.valve(1, false), 5);
        Check.answers("closed by hand, too", x, x.valve(1, true), 1);
        Check.answers("not shut then", x, x.edge(1, 5), 0);
        Check.answers("one round then", x, x.about(4), 1);
    }

    /** Promise 35. */
    private static void draws() {
        RingWaters x = Tape.told(ROW);
        Check.answers("draw 60", x, x.draw(2, 60), 1);
        Check.answers("draw 0", x, x.draw(2, 0), 60);
        Check.answers("as told", x, x.joint(2, 0), 0);
        Check.answers("flow", x, x.flow(0), 1);
        Check.answers("the same again is an act", x, x.draw(2, 0), 0);
        Check.answers("three acts", x, x.about(7), 3);
        for (int bad : new int[] {-1, 61, MIN_VALUE, MAX_VALUE}) {
            Check.refused("draw " + bad, x, x.draw(1, bad), 2);
            Check.refused("draw at the well, " + bad, x, x.draw(0, bad), 1);
        }
        for (int bad : new int[] {-1, 0, 3, MIN_VALUE, MAX_VALUE}) {
            Check.refused("draw at " + bad, x, x.draw(bad, 1), 1);
        }
        Check.answers("none by refused ones", x, x.about(7), 3);
        x.valve(0, true);
        Check.answers("one that is dry", x, x.draw(1, 7), 1);
        Check.answers("given to the dry", x, x.about(6), 0);
        Check.answers("told of the dry", x, x.joint(1, 0), 7);
    }

    /** Promise 36. */
    private static void wells() {
        RingWaters x = Tape.told(ROW);
        Check.answers("well 999", x, x.well(999), 10);
        Check.answers("its head", x, x.head(0), 99900);
        Check.answers("a's head", x, x.head(1), 99896);
        Check.answers("well 0", x, x.well(0), 999);
        Check.answers("a's head below 0", x, x.head(1), -4);
        for (int bad : new int[] {-1, 1000, MIN_VALUE, MAX_VALUE}) {
            Check.refused("well " + bad, x, x.well(bad), 2);
        }
        Check.answers("two acts", x, x.about(7), 2);
    }

    /** Promise 37. */
    private static void resists() {
        RingWaters x = Tape.told(ROW);
        Check.answers("resist 20", x, x.resist(0, 20), 1);
        Check.answers("told", x, x.edge(0, 3), 20);
        Check.answers("a's head", x, x.head(1), 920);
        Check.answers("resist 1", x, x.resist(0, 1), 20);
        for (int bad : new int[] {0, 21, -1, MIN_VALUE, MAX_VALUE}) {
            Check.refused("resist " + bad, x, x.resist(0, bad), 2);
            Check.refused("resist of none, " + bad, x, x.resist(2, bad), 1);
        }
        for (int bad : new int[] {-1, 2, MIN_VALUE, MAX_VALUE}) {
            Check.refused("resist of " + bad, x, x.resist(bad, 1), 1);
        }
        Check.answers("two acts", x, x.about(7), 2);
        x = Tape.told(NetTest.PUMPED);
        Check.refused("a pump", x, x.resist(0, 2), 5);
        Check.refused("a pump first, then the number", x, x.resist(0, 99), 5);
        x = Tape.told(NetTest.CHECKED);
        Check.answers("a check", x, x.resist(1, 9), 4);
    }

    /** Promise 38. */
    private static void undoing() {
        RingWaters x = Tape.told(ROW);
        Check.refused("none yet", x, x.undo(), 5);
        x.draw(1, 5);
        x.well(20);
        x.resist(1, 4);
        x.valve(0, true);
        x.valve(0, false);
        state("all", x, 5, 20, 4, 0, 0);
        Check.answers("the opening", x, x.undo(), 4);
        state("closed again", x, 5, 20, 4, 1, 6);
        Check.answers("the closing", x, x.undo(), 3);
        state("open again", x, 5, 20, 4, 0, 0);
        Check.answers("the resist", x, x.undo(), 2);
        state("resist 1 again", x, 5, 20, 1, 0, 0);
        Check.answers("the head of b", x, x.head(2), 2000 - 36 - 1);
        Check.answers("the well", x, x.undo(), 1);
        state("well 10 again", x, 5, 10, 1, 0, 0);
        x.valve(1, true);
        Check.answers("a new act instead", x, x.about(7), 2);
        x.undo();
        Check.answers("the draw", x, x.undo(), 0);
        state("as told", x, 1, 10, 1, 0, 0);
        Check.refused("none left", x, x.undo(), 5);
        Check.answers("the head of a", x, x.head(1), 996);
    }

    private static void state(String what, RingWaters x, int drawn, int well, int resist, int closed, int dry) {
        Check.answers(what + ", draw", x, x.joint(1, 0), drawn);
        Check.answers(what + ", well", x, x.head(0), 100 * well);
        Check.answers(what + ", resist", x, x.edge(1, 3), resist);
        Check.answers(what + ", closed", x, x.edge(0, 4), closed);
        Check.answers(what + ", dry", x, x.about(8), dry);
    }

    private static void twelveAtMost() {
        RingWaters x = Tape.told(ROW);
        for (int i = 1; i <= 20; i++) {
            x.draw(1, i);
            Check.answers("acts behind " + i, x, x.about(7), Math.min(i, 12));
        }
        for (int i = 11; i >= 0; i--) {
            Check.answers("undo to " + i, x, x.undo(), i);
            Check.answers("draw by " + i, x, x.joint(1, 0), 8 + i);
        }
        Check.refused("the thirteenth is gone", x, x.undo(), 5);
        Check.answers("it stays", x, x.joint(1, 0), 8);
        // Unlike acts, more than twelve of them: each comes back to its own.
        x = Tape.told(ROW);
        x.well(19);
        for (int i = 0; i < 4; i++) {
            x.draw(1, 10 + i);
            x.well(20 + i);
            x.resist(0, 3 + i);
            x.valve(1, i % 2 == 0);
        }
        for (int i = 3; i >= 1; i--) {
            Check.answers("valve " + i, x, x.edge(1, 4), i % 2 == 0 ? 1 : 0);
            x.undo();
            Check.answers("valve taken back " + i, x, x.edge(1, 4), i % 2 == 0 ? 0 : 1);
            x.undo();
            Check.answers("resist taken back " + i, x, x.edge(0, 3), 2 + i);
            x.undo();
            Check.answers("well taken back " + i, x, x.head(0), 100 * (19 + i));
            x.undo();
            Check.answers("draw taken back " + i, x, x.joint(1, 0), 9 + i);
        }
        Check.refused("five are gone", x, x.undo(), 5);
    }
}
