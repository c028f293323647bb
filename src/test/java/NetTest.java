import static java.lang.Integer.MAX_VALUE;
import static java.lang.Integer.MIN_VALUE;

/** Promises 6 to 21: what a net that was SOLVED tells. The numbers were found by hand. */
public final class NetTest {
    static final String RING = "well w 50;joint a 10 at 20;joint b 6 at 10;pipe w a 1;pipe a b 2;pipe w b 3";
    /** To b water would go the wrong way through a check. */
    static final String CHECKED = "well w 100;joint a 5 at 10;joint b 3 at 90;pipe w a 2;check b a 4";
    static final String PUMPED = "well w 10;joint a 12 at 5;pump w a 40,30,20";
    static final String TWO_RINGS = "well w 60;joint a 2 at 0;joint b 2 at 0;joint c 2 at 0;"
            + "pipe w a 1;pipe w b 1;pipe a c 1;pipe c b 1;pipe b a 5";

    public static void main(String[] args) {
        aboutTheNet();
        roundsAndSweeps();
        steps();
        edges();
        flowsAndLosses();
        joints();
        headsAndPressures();
        rings();
        firstRound();
        pumps();
        fullNet();
        lossesAsked();
        balanceAndBehind();
        Check.end();
    }

    /** Promise 6. */
    private static void aboutTheNet() {
        abouts(Tape.told(RING), 3, 3, 1, 1, 1, 1, 16, 0, 0, 0, 0);
        abouts(Tape.told(CHECKED), 3, 2, 0, 1, 2, 1, 5, 0, 4, 2, 0);
        abouts(Tape.told(PUMPED), 2, 1, 0, 1, 1, 1, 12, 0, 0, 0, 0);
        abouts(Tape.told(TWO_RINGS), 4, 5, 2, 1, 1, 2, 6, 0, 0, 0, 0);
        RingWaters x = Tape.told(RING);
        x.measure(2, 5);
        x.valve(1, true);
        x.valve(0, true);
        abouts(x, 3, 3, 0, 1, 1, 1, 6, 2, 2, 0, 1);
        for (int what : new int[] {-1, 11, MIN_VALUE, MAX_VALUE}) {
            Check.refused("about " + what, x, x.about(what), 1);
        }
    }

    private static void abouts(RingWaters x, int... due) {
        for (int what = 0; what < due.length; what++) {
            Check.answers("about " + what, x, x.about(what), due[what]);
        }
    }

    /** What is SHUT, opened; nets that never come to rest. (How far this goes, number by number: TermsNetTest.) */
    private static void roundsAndSweeps() {
        // f1 0, then 150, to and fro: 60 SWEEPS that still move something: AT REST all the same.
        abouts(Tape.told("well w 0;joint a 1 at 1;pump w a 3;pump w a 6"), 2, 2, 1, 1, 1, 60, 1, 0, 0, 0, 0);
        // The second pump is opened and shut by turns; the 20th ROUND opens nothing more.
        RingWaters x = Tape.told("well w 0;joint a 2 at 2;pump w a 5;pump w a 9");
        abouts(x, 2, 2, 0, 0, 20, 1, 2, 0, 0, 2, 0);
        Check.answers("flow as the last sweep left it", x, x.flow(0), 2);
        Check.answers("flow of the shut one", x, x.flow(1), 0);
        Check.answers("head as the last sweep left it", x, x.head(1), 500);
        // f0 -11, f2 -5. RING w -> a -> w, (f1, f0): -300 by 5: 60, 49; 14,400 by 485: 30, 19; 3,600 by 245: 15, 4;
        // 600 by 125: 10, -1; 100 by 85: 9, -2; 24 by 77. EDGE 0 is SHUT; f2 is -5: EDGE 2 is SHUT, b is DRY.
        // HEAD of a 4,000 less 144, LIFT 300: EDGE 0 is opened. f0 -6: 60, 54; 30, 24; 15, 9; 10, 4; 9, 3.
        x = Tape.told("well w 40;joint a 6 at 1;joint b 5 at 2;pump a w 3;pipe w a 4;pump b a 1");
        abouts(x, 3, 3, 1, 1, 4, 6, 6, 0, 4, 4, 0);
        Check.answers("the pump opened again", x, x.flow(0), 3);
        Check.answers("the pipe", x, x.flow(1), 9);
        // The one with the least number first: both checks of a stand the wrong way.
        x = Tape.told("well w 9;joint a 4 at 0;check a w 1;check a w 1");
        abouts(x, 2, 2, 0, 1, 3, 1, 0, 0, 2, 3, 0);
        Check.answers("none left for it", x, x.weakest(), -2);
        // The check to a was shut, but a is DRY once its own check is: so it is opened.
        x = Tape.told("well w 0;joint a 1 at 0;joint b 7 at 0;pipe b w 4;check b a 3;check a w 3");
        shuts(x, 1, 4, 0, 4, -8, 1, 0);
        // (f1, f0): 0, -6; 20, 14; 10, 4; 6, 0; 5, -1. SHUT; a has 144 less HEAD than the well, and a pump of 100: it stays shut.
        shuts(Tape.told("well w 0;joint a 6 at 0;pump a w 1;pipe w a 4"), 1, 2, 0, 1, 0, 6);
    }

    private static void shuts(RingWaters x, int rest, int rounds, int dry, int shut, long... flows) {
        Check.answers("rest", x, x.about(3), rest);
        Check.answers("rounds", x, x.about(4), rounds);
        Check.answers("dry", x, x.about(8), dry);
        Check.answers("shut", x, x.about(9), shut);
        for (int e = 0; e < flows.length; e++) {
            Check.answers("flow of " + e, x, x.flow(e), flows[e]);
            Check.answers("shut is " + e, x, x.edge(e, 5), shut >> e & 1);
        }
    }

    /** TO PUT a RING RIGHT: to the nearest, of two as near the one nearer to 0, held. */
    private static void steps() {
        step("9 by 17", "well w 9;joint a 3 at 0;pipe w a 1;pipe w a 10", 1);
        step("9 by 18", "well w 9;joint a 3 at 0;pipe w a 1;pipe w a 11", 0);
        step("36 by 24", "well w 9;joint a 6 at 0;pipe w a 1;pipe w a 11", 1);
        step("36 by 23", "well w 9;joint a 6 at 0;pipe w a 1;pipe w a 10", 2);
        step("9 by 17, the other way", "well w 9;joint a 3 at 0;pipe w a 1;pipe a w 10", -1);
        step("9 by 18, the other way", "well w 9;joint a 3 at 0;pipe w a 1;pipe a w 11", 0);
        step("36 by 24, the other way", "well w 9;joint a 6 at 0;pipe w a 1;pipe a w 11", -1);
        step("36 by 23, the other way", "well w 9;joint a 6 at 0;pipe w a 1;pipe a w 10", -2);
        step("held to -1,000", "well w 0;joint a 5 at 0;pump w a 0;pump w a 300", 1000);
        step("held to 1,000", "well w 0;joint a 5 at 0;pump w a 300;pump w a 0", -1000);
        step("1,000 as it is", "well w 0;joint a 5 at 0;pump w a 0;pump w a 20", 1000);
        step("950 as it is", "well w 0;joint a 5 at 0;pump w a 0;pump w a 19", 950);
        RingWaters x = Tape.told("well w 0;joint a 5 at 0;pump w a 0;pump w a 300");
        Check.answers("first in the tree, against its way", x, x.early(0, 1), -995);
        Check.answers("shut then", x, x.about(9), 1);
        Check.answers("lifted by the second", x, x.head(1), 30000);
    }

    private static void step(String what, String text, long due) {
        RingWaters x = Tape.told(text);
        Check.answers(what, x, x.early(1, 1), due);
    }

    /** Promise 7. */
    private static void edges() {
        RingWaters x = Tape.told(CHECKED);
        edge(x, 0, 0, 1, 0, 2, 0, 0, 1, 0);
        edge(x, 1, 2, 1, 1, 4, 0, 1, 0, 0);
        x.valve(1, true);
        edge(x, 1, 2, 1, 1, 4, 1, 0, 0, 0);
        x = Tape.told(TWO_RINGS);
        edge(x, 0, 0, 1, 0, 1, 0, 0, 1, 2);
        edge(x, 1, 0, 2, 0, 1, 0, 0, 1, 2);
        edge(x, 2, 1, 3, 0, 1, 0, 0, 1, 1);
        edge(x, 3, 3, 2, 0, 1, 0, 0, 0, 1);
        edge(x, 4, 2, 1, 0, 5, 0, 0, 0, 1);
        edge(Tape.told(PUMPED), 0, 0, 1, 2, -2, 0, 0, 1, 0);
        for (int bad : new int[] {-1, 5, MIN_VALUE, MAX_VALUE}) {
            Check.refused("edge " + bad, x, x.edge(bad, 0), 1);
        }
        for (int bad : new int[] {-1, 8, MIN_VALUE, MAX_VALUE}) {
            Check.refused("edge what " + bad, x, x.edge(0, bad), 1);
        }
    }

    private static void edge(RingWaters x, int e, int... due) {
        for (int what = 0; what < due.length; what++) {
            Check.answers("edge " + e + " " + what, x, x.edge(e, what), due[what]);
        }
    }

    /** Promises 8 and 9. */
    private static void flowsAndLosses() {
        RingWaters x = Tape.told(TWO_RINGS);
        long[] flows = {3, 3, 1, -1, 0};
        long[] losses = {9, 9, 1, -1, 0};
        for (int e = 0; e < 5; e++) {
            Check.answers("flow " + e, x, x.flow(e), flows[e]);
            Check.answers("loss " + e, x, x.loss(e), losses[e]);
        }
        for (int bad : new int[] {-1, 5, MIN_VALUE, MAX_VALUE}) {
            Check.nothing("flow " + bad, x, x.flow(bad), 1);
            Check.nothing("loss " + bad, x, x.loss(bad), 1);
        }
        x = Tape.told(CHECKED);
        Check.answers("flow of what is shut", x, x.flow(1), 0);
        Check.answers("loss of what is shut", x, x.loss(1), 0);
        x = Tape.told(PUMPED);
        Check.answers("loss of a pump by 12", x, x.loss(0), -3000);
        x.valve(0, true);
        Check.answers("flow of a closed pump", x, x.flow(0), 0);
        Check.answers("loss of a closed pump, by 0", x, x.loss(0), -4000);
        // Open, but of DRY joints.
        x = Tape.told("well w 9;joint a 1 at 0;joint b 7 at 0;pipe w a 1;pipe a b 1");
        x.valve(0, true);
        Check.answers("flow among the dry", x, x.flow(1), 0);
        Check.answers("loss among the dry", x, x.loss(1), 0);
        Check.answers("of no tree", x, x.edge(1, 6), 0);
    }

    /** Promise 10. */
    private static void joints() {
        RingWaters x = Tape.told(CHECKED);
        joint(x, 0, 0, 0, -2, 1);
        joint(x, 1, 5, 1000, 0, 3);
        joint(x, 2, 3, 9000, -2, 2);
        x = Tape.told(TWO_RINGS);
        joint(x, 0, 0, 0, -2, 3);
        joint(x, 1, 2, 0, 0, 21);
        joint(x, 2, 2, 0, 1, 26);
        joint(x, 3, 2, 0, 2, 12);
        x.draw(3, 9);
        x.valve(2, true);
        joint(x, 3, 9, 0, 3, 12);
        for (int bad : new int[] {-1, 4, MIN_VALUE, MAX_VALUE}) {
            Check.refused("joint " + bad, x, x.joint(bad, 0), 1);
            Check.refused("joint what " + bad, x, x.joint(0, bad), 1);
        }
    }

    private static void joint(RingWaters x, int j, int... due) {
        for (int what = 0; what < due.length; what++) {
            Check.answers("joint " + j + " " + what, x, x.joint(j, what), due[what]);
        }
    }

    /** Promises 11, 12 and 13. */
    private static void headsAndPressures() {
        RingWaters x = Tape.told(TWO_RINGS);
        long[] heads = {6000, 5991, 5991, 5990};
        for (int j = 0; j < 4; j++) {
            Check.answers("head " + j, x, x.head(j), heads[j]);
            Check.answers("pressure " + j, x, x.pressure(j), j == 0 ? 0 : heads[j]);
        }
        Check.answers("weakest", x, x.weakest(), 3);
        for (int bad : new int[] {-1, 4, MIN_VALUE, MAX_VALUE}) {
            Check.nothing("head " + bad, x, x.head(bad), 1);
            Check.nothing("pressure " + bad, x, x.pressure(bad), 1);
        }
        x = Tape.told(CHECKED);
        Check.answers("head of a", x, x.head(1), 9950);
        Check.answers("pressure of a", x, x.pressure(1), 8950);
        Check.nothing("head of the dry", x, x.head(2), 5);
        Check.nothing("pressure of the dry", x, x.pressure(2), 5);
        Check.answers("the dry is not the weakest", x, x.weakest(), 1);
        x.valve(0, true);
        Check.answers("all are dry", x, x.weakest(), -2);
        Check.answers("the well is not", x, x.head(0), 10000);
        Check.answers("the well's pressure", x, x.pressure(0), 0);
        x = Tape.told("well w 9;joint a 1 at 0;joint b 2 at 0;joint c 2 at 0;pipe w a 1;pipe w b 1;pipe c w 1");
        Check.answers("against the edge's way", x, x.head(3), 896);
        Check.answers("the first of like ones", x, x.weakest(), 2);
        x = Tape.told("well w 0;joint a 60 at 300;pipe w a 20");
        Check.answers("far below 0", x, x.pressure(1), -72000 - 30000);
    }

    /** Promises 14 and 15. */
    private static void rings() {
        RingWaters x = Tape.told(TWO_RINGS);
        int[][] rows = {{3, 1, 0, 2, -2, -2}, {4, 0, 1, -2, -2}};
        for (int k = 0; k < 2; k++) {
            for (int i = 0; i < rows[k].length; i++) {
                Check.answers("ring " + k + " " + i, x, x.ring(k, i), rows[k][i]);
            }
            Check.answers("ring " + k + " far beyond", x, x.ring(k, MAX_VALUE), -2);
            Check.refused("ring " + k + " -1", x, x.ring(k, -1), 1);
            Check.refused("ring " + k + " least", x, x.ring(k, MIN_VALUE), 1);
            Check.nothing("sum what -1", x, x.sum(k, -1), 1);
            Check.nothing("sum what 2", x, x.sum(k, 2), 1);
        }
        Check.answers("sum 0", x, x.sum(0, 0), 0);
        Check.answers("steep 0", x, x.sum(0, 1), 20);
        Check.answers("sum 1", x, x.sum(1, 0), 0);
        Check.answers("steep 1", x, x.sum(1, 1), 19);
        for (int bad : new int[] {-1, 2, 14, MIN_VALUE, MAX_VALUE}) {
            Check.refused("ring " + bad, x, x.ring(bad, 0), 1);
            Check.nothing("sum " + bad, x, x.sum(bad, 0), 1);
        }
        x = Tape.told(RING);
        Check.answers("sum", x, x.sum(0, 0), -8);
        Check.answers("steep", x, x.sum(0, 1), 62);
        // The EDGE beside THE TREE comes first of all.
        x = Tape.told("well w 9;joint a 1 at 0;joint b 1 at 0;pipe a b 2;pipe w a 3;pipe w b 4");
        int[] firstBeside = {0, 2, 1, -2};
        for (int i = 0; i < firstBeside.length; i++) {
            Check.answers("edge 0 beside the tree " + i, x, x.ring(0, i), firstBeside[i]);
        }
        Check.answers("edge 0 is not of the tree", x, x.edge(0, 6), 0);
        // A ring that does not go by the well, and a pump in it, gone through backwards.
        x = Tape.told("well w 90;joint a 0 at 0;joint b 0 at 0;joint c 0 at 0;pipe w a 1;pump a b 7;pipe a c 2;pipe c b 3");
        x.valve(0, true);
        Check.answers("no rings among the dry", x, x.about(2), 0);
        x.valve(0, false);
        int[] row = {3, 1, 2, -2};
        for (int i = 0; i < row.length; i++) {
            Check.answers("by the tree's fork " + i, x, x.ring(0, i), row[i]);
        }
        // From c to b, then from b to a against the pump: 0 less 0 less 700.
        Check.answers("gap at begin", x, x.gap(0), 700);
        Check.answers("begin by the pump alone: c to b", x, x.early(3, 1), -117);
    }

    /** Promises 16 and 18. */
    private static void firstRound() {
        RingWaters x = Tape.told(TWO_RINGS);
        long[] begin = {4, 2, 2, 0, 0};
        long[] behindOne = {3, 3, 1, -1, 0};
        for (int e = 0; e < 5; e++) {
            Check.answers("early 0 of " + e, x, x.early(e, 0), begin[e]);
            Check.answers("early 1 of " + e, x, x.early(e, 1), behindOne[e]);
            Check.answers("early 60 of " + e, x, x.early(e, 60), behindOne[e]);
            Check.nothing("early -1", x, x.early(e, -1), 2);
            Check.nothing("early 61", x, x.early(e, 61), 2);
        }
        Check.answers("gap 0", x, x.gap(0), 16);
        Check.answers("gap 1", x, x.gap(1), 0);
        Check.answers("gap 60", x, x.gap(60), 0);
        for (int bad : new int[] {-1, 61, MIN_VALUE, MAX_VALUE}) {
            Check.nothing("gap " + bad, x, x.gap(bad), 2);
            Check.nothing("early of none, " + bad, x, x.early(5, bad), 1);
        }
        Check.nothing("early of -1", x, x.early(-1, 0), 1);
        x = Tape.told(CHECKED);
        x.cut(0);
        x.scaled(100);
        Check.answers("the first round, not the last: 0", x, x.early(0, 60), 8);
        Check.answers("the first round, not the last: 1", x, x.early(1, 60), -3);
        Check.answers("gap without rings", x, x.gap(0), 0);
        // The ring of the first ROUND is gone in the last.
        x = Tape.told("well w 10;joint a 5 at 0;check a w 1;pipe w a 4");
        Check.answers("no ring now", x, x.about(2), 0);
        Check.answers("gap of the first round", x, x.gap(0), 25);
        Check.answers("gap by its end", x, x.gap(60), 7);
        // Circles of SWEEPS: what each of the 60 leaves, to and fro. By 0 .. 9 the pumps lift 600 and 300.
        x = Tape.told("well w 0;joint a 1 at 1;pump w a 3;pump w a 6");
        long second = 0;
        for (int n = 0; n <= 60; n++) {
            Check.answers("early of the second pump " + n, x, x.early(1, n), second);
            long sum = (second > 9 ? 0 : -600) + (1 - second > 9 ? 0 : 300);
            Check.answers("gap of both pumps " + n, x, x.gap(n), Math.abs(sum));
            second -= sum / 2;
        }
    }

    /** Promise 17. */
    private static void pumps() {
        RingWaters x = Tape.told(PUMPED);
        Check.answers("work", x, x.work(), 36000);
        Check.answers("lifted", x, x.head(1), 4000);
        x.draw(1, 9);
        Check.answers("work by 9", x, x.work(), 36000);
        x.draw(1, 30);
        Check.answers("work beyond its numbers", x, x.work(), 0);
        x.draw(1, 29);
        Check.answers("work by 29", x, x.work(), 58000);
        x.valve(0, true);
        Check.answers("work of a closed one", x, x.work(), 0);
        Check.answers("no pumps", Tape.told(RING), Tape.told(RING).work(), 0);
        x = Tape.told("well w 5;joint a 4 at 0;joint b 3 at 0;pump w a 6;pump a b 2");
        Check.answers("both together", x, x.work(), 7 * 600 + 3 * 200);
    }

    /** As many JOINTS and EDGES as can be, the last with as many LIFTS. */
    private static void fullNet() {
        RingWaters x = Tape.told("well w 9;joint a 1 at 1;joint b 1 at 1;joint c 1 at 1;joint d 1 at 1;joint e 1 at 1;"
                + "joint f 1 at 1;joint g 1 at 1;joint h 1 at 1;pipe w a 1;pipe a b 1;pipe b c 1;pipe c d 1;pipe d e 1;"
                + "pipe e f 1;pipe f g 1;pipe g h 1;check a w 1;check b w 1;check c w 1;check d w 1;check e w 1;"
                + "pump h w 6,5,4,3,2,1");
        Check.answers("nine joints", x, x.about(0), 9);
        Check.answers("fourteen edges", x, x.about(1), 14);
        for (int k = 0; k < 7; k++) {
            Check.answers("lift " + k, x, x.lossAt(13, 10 * k, 0), k < 6 ? -100 * (6 - k) : 0);
        }
        x.valve(13, true);
        for (int e = 8; e < 13; e++) {
            x.valve(e, true);
        }
        Check.answers("all in a row", x, x.about(8), 0);
        Check.answers("eight behind the well", x, x.behind(0), 8);
        Check.answers("one behind the seventh", x, x.behind(7), 1);
        Check.answers("given to all", x, x.about(6), 8);
        Check.answers("the last head", x, x.head(8), 900 - 64 - 49 - 36 - 25 - 16 - 9 - 4 - 1);
        x.valve(7, true);
        x.valve(13, false);
        Check.answers("round the whole row", x, x.about(8), 256);
        x = Tape.told("well w 9;joint a 1 at 1;joint b 1 at 1;joint c 1 at 1;joint d 1 at 1;joint e 1 at 1;"
                + "joint f 1 at 1;joint g 1 at 1;joint h 1 at 1;pipe w a 1;pipe a b 1;pipe b c 1;pipe c d 1;pipe w e 1;"
                + "pipe e f 1;pipe f g 1;pipe g h 1;pipe d h 1");
        int[] longest = {8, 7, 6, 5, 4, 0, 1, 2, 3, -2};
        for (int i = 0; i < longest.length; i++) {
            Check.answers("the longest ring " + i, x, x.ring(0, i), longest[i]);
        }
        // What a pump of an earlier TEXT lifted is gone.
        x = Tape.told("well w 9;joint a 1 at 0;pump w a 6,5,4,3,2,1");
        Tape.tell(x, "well w 9;joint a 1 at 0;pump w a 9,8");
        for (int k = 0; k < 7; k++) {
            Check.answers("lift of the second text " + k, x, x.lossAt(0, 10 * k, 0), k == 0 ? -900 : k == 1 ? -800 : 0);
        }
    }

    /** Promise 20. */
    private static void lossesAsked() {
        RingWaters x = Tape.told(PUMPED);
        int[] flows = {-10000, -1, 0, 9, 10, 19, 20, 29, 30, 10000};
        long[] losses = {-4000, -4000, -4000, -4000, -3000, -3000, -2000, -2000, 0, 0};
        for (int i = 0; i < flows.length; i++) {
            Check.answers("pump by " + flows[i], x, x.lossAt(0, flows[i], 0), losses[i]);
            Check.answers("pump's steep by " + flows[i], x, x.lossAt(0, flows[i], 1), 1);
        }
        x = Tape.told(CHECKED);
        Check.answers("pipe by 7", x, x.lossAt(0, 7, 0), 98);
        Check.answers("pipe by -7", x, x.lossAt(0, -7, 0), -98);
        Check.answers("pipe's steep by 7", x, x.lossAt(0, 7, 1), 30);
        Check.answers("pipe's steep by -7", x, x.lossAt(0, -7, 1), 30);
        Check.answers("shut check by -3", x, x.lossAt(1, -3, 0), -36);
        Check.answers("check's steep by 0", x, x.lossAt(1, 0, 1), 4);
        x.resist(0, 20);
        Check.answers("resist as it is now", x, x.lossAt(0, 10000, 0), 2000000000L);
        Check.answers("and the other way", x, x.lossAt(0, -10000, 0), -2000000000L);
        Check.answers("steep as it is now", x, x.lossAt(0, -10000, 1), 400020);
        for (int bad : new int[] {-10001, 10001, MIN_VALUE, MAX_VALUE}) {
            Check.nothing("lossAt by " + bad, x, x.lossAt(0, bad, 0), 2);
            Check.nothing("lossAt what, by " + bad, x, x.lossAt(0, bad, 2), 1);
        }
        Check.nothing("lossAt what -1", x, x.lossAt(0, 0, -1), 1);
        Check.nothing("lossAt of -1", x, x.lossAt(-1, 0, 0), 1);
        Check.nothing("lossAt of 2", x, x.lossAt(2, 0, 0), 1);
    }

    /** Promises 19 and 21. */
    private static void balanceAndBehind() {
        RingWaters x = Tape.told(TWO_RINGS);
        int[] behind = {3, 1, 0, 0};
        for (int j = 0; j < 4; j++) {
            Check.answers("behind " + j, x, x.behind(j), behind[j]);
            if (j > 0) {
                Check.answers("balance " + j, x, x.balance(j), 0);
            }
        }
        x.valve(0, true);
        x.valve(3, true);
        int[] inARow = {3, 1, 2, 0};
        for (int j = 0; j < 4; j++) {
            Check.answers("behind in a row " + j, x, x.behind(j), inARow[j]);
        }
        for (int bad : new int[] {-1, 4, MIN_VALUE, MAX_VALUE}) {
            Check.refused("behind " + bad, x, x.behind(bad), 1);
            Check.nothing("balance " + bad, x, x.balance(bad), 1);
        }
        Check.nothing("balance of the well", x, x.balance(0), 1);
        x = Tape.told(CHECKED);
        Check.answers("balance of the dry", x, x.balance(2), 0);
        Check.answers("behind the dry", x, x.behind(2), 0);
        Check.answers("the dry are behind none", x, x.behind(0), 1);
    }
}
