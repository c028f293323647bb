/**
 * Terms II, how a net is SOLVED, sentence by sentence. All numbers were found by hand from the sentence; where that
 * takes more than a line, how they were found stands in a comment: f0 is the FLOW of EDGE 0, and so on.
 */
public final class TermsNetTest {
    public static void main(String[] args) {
        hundredths();
        openShutClosed();
        losses();
        steeps();
        theTree();
        dryJoints();
        rings();
        flowsAtBegin();
        ringsPutRight();
        stepsHeld();
        sweeps();
        sixtySweeps();
        theSixtieth();
        shutting();
        leastNumberIsShut();
        shuttingComesFirst();
        opening();
        openingByHeads();
        openingByLift();
        twentyRounds();
        circlesOfFourRounds();
        noMoreInTheTwentieth();
        solvedAnew();
        headsAndPressures();
        Check.end();
    }

    private static void flows(RingWaters x, long... due) {
        for (int e = 0; e < due.length; e++) {
            Check.answers("FLOW of " + e, x, x.flow(e), due[e]);
        }
    }

    private static void early(RingWaters x, int n, long... due) {
        for (int e = 0; e < due.length; e++) {
            Check.answers("FLOW of " + e + " behind " + n + " SWEEPS", x, x.early(e, n), due[e]);
        }
    }

    private static void heads(RingWaters x, long... due) {
        for (int j = 0; j < due.length; j++) {
            Check.answers("HEAD of " + j, x, x.head(j), due[j]);
        }
    }

    private static void hangs(RingWaters x, int... due) {
        for (int j = 0; j < due.length; j++) {
            Check.answers("EDGE by which " + j + " hangs", x, x.joint(j, 2), due[j]);
        }
    }

    private static void ring(RingWaters x, int k, int... due) {
        for (int i = 0; i < due.length; i++) {
            Check.answers("EDGE " + i + " of RING " + k, x, x.ring(k, i), due[i]);
        }
        Check.answers("beyond RING " + k, x, x.ring(k, due.length), -2);
    }

    /** What about() tells of how the net was SOLVED; DRY and SHUT are bits. */
    private static void solved(RingWaters x, boolean isAtRest, int rounds, int sweeps, int dry, int shut) {
        Check.answers("AT REST", x, x.about(3), isAtRest ? 1 : 0);
        Check.answers("ROUNDS", x, x.about(4), rounds);
        Check.answers("SWEEPS", x, x.about(5), sweeps);
        Check.answers("DRY", x, x.about(8), dry);
        Check.answers("SHUT", x, x.about(9), shut);
    }

    // ---- the sentences

    private static void hundredths() {
        Check.under("II. HEADS, LOSSES, heights are in hundredths (what a TEXT tells times 100)");
        RingWaters x = Tape.told("well w 7;joint a 3 at 2;pump w a 4");
        Check.answers("HEAD", x, x.head(0), 700);
        Check.answers("LIFT", x, x.loss(0), -400);
        Check.answers("height", x, x.joint(1, 1), 200);
        Check.answers("PRESSURE", x, x.pressure(1), 700 + 400 - 200);
        Check.answers("draws are as told", x, x.joint(1, 0), 3);
    }

    private static void openShutClosed() {
        Check.under("II. FLOW of an open one: from its FIRST to its SECOND (below 0: the other way)");
        RingWaters x = Tape.told("well w 9;joint a 3 at 0;joint b 2 at 0;pipe w a 1;pipe b w 1");
        flows(x, 3, -2);
        Check.under("II. FLOW of others 0");
        x.valve(0, true);
        flows(x, 0, -2);
        x = Tape.told("well w 9;joint a 3 at 0;check a w 1");
        flows(x, 0);
        Check.answers("SHUT, not CLOSED", x, x.edge(0, 4), 0);
        Check.answers("SHUT", x, x.edge(0, 5), 1);
        x.valve(0, true);
        Check.answers("CLOSED", x, x.edge(0, 4), 1);
        Check.answers("CLOSED, not SHUT", x, x.edge(0, 5), 0);
        flows(x, 0);
    }

    private static void losses() {
        RingWaters x = Tape.told("well w 9;joint a 0 at 0;pipe w a 20;check w a 3;pump w a 6,5,4,3,2,1;pump w a 300;pump w a 0");
        Check.under("II. LOSS of a pipe, a check: RESIST times f times f, below 0 if f is");
        int[] by = {-10000, -2, -1, 0, 1, 2, 10000};
        long[] squares = {-100000000, -4, -1, 0, 1, 4, 100000000};
        for (int i = 0; i < by.length; i++) {
            Check.answers("pipe by " + by[i], x, x.lossAt(0, by[i], 0), 20 * squares[i]);
            Check.answers("check by " + by[i], x, x.lossAt(1, by[i], 0), 3 * squares[i]);
        }
        Check.under("II. LIFT: its k-th number (from 0) by f 10 k .. 10 k and 9");
        for (int k = 0; k < 6; k++) {
            Check.answers("by " + 10 * k, x, x.lossAt(2, 10 * k, 0), -100 * (6 - k));
            Check.answers("by " + (10 * k + 9), x, x.lossAt(2, 10 * k + 9, 0), -100 * (6 - k));
        }
        Check.answers("the one, by 0", x, x.lossAt(3, 0, 0), -30000);
        Check.answers("the one, by 9", x, x.lossAt(3, 9, 0), -30000);
        Check.under("II. LIFT: 0 beyond its numbers");
        Check.answers("six, by 60", x, x.lossAt(2, 60, 0), 0);
        Check.answers("six, by 10,000", x, x.lossAt(2, 10000, 0), 0);
        Check.answers("one, by 10", x, x.lossAt(3, 10, 0), 0);
        Check.under("II. LIFT: the first number by f below 0");
        Check.answers("six, by -1", x, x.lossAt(2, -1, 0), -600);
        Check.answers("six, by -10", x, x.lossAt(2, -10, 0), -600);
        Check.answers("six, by -10,000", x, x.lossAt(2, -10000, 0), -600);
        Check.answers("one, by -1", x, x.lossAt(3, -1, 0), -30000);
        Check.answers("0, by -1", x, x.lossAt(4, -1, 0), 0);
        Check.answers("0, by 0", x, x.lossAt(4, 0, 0), 0);
    }

    private static void steeps() {
        RingWaters x = Tape.told("well w 9;joint a 0 at 0;pipe w a 20;check w a 3;pump w a 6,5");
        Check.under("II. STEEP of a pipe, a check RESIST times (2 times f without sign, and 1)");
        int[] by = {-10000, -1, 0, 1, 10000};
        long[] twiceAndOne = {20001, 3, 1, 3, 20001};
        for (int i = 0; i < by.length; i++) {
            Check.answers("pipe by " + by[i], x, x.lossAt(0, by[i], 1), 20 * twiceAndOne[i]);
            Check.answers("check by " + by[i], x, x.lossAt(1, by[i], 1), 3 * twiceAndOne[i]);
        }
        Check.under("II. STEEP of a pump 1");
        for (int f : new int[] {-10000, -1, 0, 9, 10, 20, 10000}) {
            Check.answers("pump by " + f, x, x.lossAt(2, f, 1), 1);
        }
    }

    private static void theTree() {
        Check.under("II. THE TREE: JOINTS are met by a queue");
        // w meets a and b; a meets c; b, ahead of c, meets d.
        RingWaters x = Tape.told("well w 9;joint a 0 at 0;joint b 0 at 0;joint c 0 at 0;joint d 0 at 0;"
                + "pipe w a 1;pipe a c 1;pipe c d 1;pipe w b 1;pipe b d 1");
        hangs(x, -2, 0, 3, 1, 4);
        Check.under("II. THE TREE: from each its open EDGES by numbers");
        // b is met ahead of a: so c hangs on b, by the greater number.
        x = Tape.told("well w 9;joint a 0 at 0;joint b 0 at 0;joint c 0 at 0;pipe b w 1;pipe w a 1;pipe a c 1;pipe b c 1");
        hangs(x, -2, 1, 0, 3);
        x = Tape.told("well w 9;joint a 0 at 0;pipe a w 5;pipe w a 1");
        hangs(x, -2, 0);
        Check.answers("of THE TREE", x, x.edge(0, 6), 1);
        Check.answers("beside it", x, x.edge(1, 6), 0);
        Check.under("II. THE TREE: open EDGES alone, either way");
        x.valve(0, true);
        hangs(x, -2, 1);
        Check.answers("CLOSED: not of it", x, x.edge(0, 6), 0);
        x = Tape.told("well w 9;joint a 0 at 0;joint b 0 at 0;check a w 1;pump b a 1");
        hangs(x, -2, 0, 1);
        x.draw(1, 1);
        hangs(x, -2, -2, -2);
        Check.answers("SHUT: not of it", x, x.edge(0, 6), 0);
        Check.answers("open, but of DRY JOINTS: not of it", x, x.edge(1, 6), 0);
    }

    private static void dryJoints() {
        // By BEGIN f1 is -10: EDGE 1 is SHUT; b and c, with a ring of their own, are met by nothing else.
        RingWaters x = Tape.told("well w 9;joint a 5 at 0;joint b 7 at 0;joint c 3 at 0;"
                + "pipe w a 1;check b a 1;pipe b c 1;pipe c b 2;pump c b 8");
        Check.under("II. JOINTS that aren't met are DRY");
        solved(x, true, 2, 1, 4 + 8, 2);
        Check.under("II. DRY: they draw nothing");
        Check.answers("what the well gives", x, x.about(6), 5);
        Check.answers("HEAD of a", x, x.head(1), 900 - 25);
        Check.under("II. DRY: open EDGES of theirs have FLOW 0");
        flows(x, 5, 0, 0, 0, 0);
        Check.answers("LOSS of an open pump among them, by FLOW 0", x, x.loss(4), -800);
        Check.answers("it does nothing", x, x.work(), 0);
        Check.under("II. RINGS: of open EDGES of met JOINTS");
        Check.answers("none among the DRY", x, x.about(2), 0);
        Check.answers("through none", x, x.edge(3, 7), 0);
        Check.under("II. all JOINTS may be DRY, the well never is");
        x.valve(0, true);
        Check.answers("all", x, x.about(8), 2 + 4 + 8);
        Check.answers("gives nothing", x, x.about(6), 0);
        heads(x, 900);
    }

    private static void rings() {
        Check.under("II. RINGS, by numbers, each one: along it from its FIRST to its SECOND, then along THE TREE");
        RingWaters x = Tape.told("well w 9;joint a 0 at 0;joint b 0 at 0;joint c 0 at 0;"
                + "pipe b a 1;pipe w a 1;pipe w b 1;pipe b c 1;pipe c a 1;pipe a w 1");
        // w meets a by 1, b by 2; a, ahead of b, meets c by 4.
        hangs(x, -2, 1, 2, 4);
        Check.answers("RINGS", x, x.about(2), 3);
        ring(x, 0, 0, 1, 2);
        ring(x, 1, 3, 4, 1, 2);
        ring(x, 2, 5, 1);
        Check.under("II. RINGS: the shortest way, not by the well if that is aside");
        x = Tape.told("well w 9;joint a 0 at 0;joint b 0 at 0;joint c 0 at 0;pipe w a 1;pipe a b 1;pipe a c 1;pipe b c 1");
        ring(x, 0, 3, 2, 1);
        x = Tape.told("well w 9;joint a 0 at 0;joint b 0 at 0;pipe w a 1;pipe a b 1;pipe b a 1");
        ring(x, 0, 2, 1);
        Check.under("II. RINGS: as many as 13, as long as 9");
        x = Tape.told("well w 9;joint a 0 at 0" + ";pipe w a 1".repeat(14));
        Check.answers("13", x, x.about(2), 13);
        ring(x, 12, 13, 0);
        Check.answers("all go through EDGE 0", x, x.edge(0, 7), 13);
        Check.answers("one goes through EDGE 13", x, x.edge(13, 7), 1);
        x = Tape.told("well w 9;joint a 0 at 0;joint b 0 at 0;joint c 0 at 0;joint d 0 at 0;joint e 0 at 0;joint f 0 at 0;"
                + "joint g 0 at 0;joint h 0 at 0;pipe w a 1;pipe a b 1;pipe b c 1;pipe c d 1;pipe w e 1;pipe e f 1;"
                + "pipe f g 1;pipe g h 1;pipe h d 1");
        ring(x, 0, 8, 3, 2, 1, 0, 4, 5, 6, 7);
        Check.under("II. RINGS: none without an EDGE beside THE TREE");
        x.valve(8, true);
        Check.answers("none", x, x.about(2), 0);
    }

    private static void flowsAtBegin() {
        Check.under("II. FLOWS at BEGIN: 0 beside THE TREE; in each EDGE of it what those draw behind it, towards them");
        RingWaters x = Tape.told("well w 9;joint a 1 at 0;joint b 2 at 0;joint c 4 at 0;joint d 8 at 0;"
                + "pipe w a 1;pipe b a 1;pipe b c 1;pipe d a 1;pipe w c 1;pipe c d 1");
        // w meets a by 0, c by 4; a meets b by 1, d by 3; b and c meet nobody.
        hangs(x, -2, 0, 1, 4, 3);
        early(x, 0, 1 + 2 + 8, -2, 0, -8, 4, 0);
        Check.under("II. FLOWS at BEGIN: 0 where those behind draw 0");
        x = Tape.told("well w 9;joint a 0 at 0;joint b 0 at 0;pipe w a 1;pipe b a 1");
        early(x, 0, 0, 0);
        flows(x, 0, 0);
    }

    /** One draws what goes by EDGE 0; EDGE 1 beside it, from the well if it isn't turned: FLOW of EDGE 1 behind a SWEEP. */
    private static void step(String what, int draws, int resist, boolean isTurned, long due) {
        RingWaters x = Tape.told("well w 9;joint a " + draws + " at 0;pipe w a 1;pipe " + (isTurned ? "a w " : "w a ") + resist);
        Check.answers(what, x, x.early(1, 1), due);
    }

    private static void ringsPutRight() {
        // The RING w -> a -> w has SUM 0 less d times d, STEEP r and 2 d + 1; turned, SUM is d times d.
        Check.under("II. the step: SUM by STEEP, to the nearest whole number");
        step("-9 by 7 and 10, -0.53", 3, 10, false, 1);
        step("-9 by 7 and 12, -0.47", 3, 12, false, 0);
        step("-36 by 13 and 10, -1.57", 6, 10, false, 2);
        step("-36 by 13 and 12, -1.44", 6, 12, false, 1);
        step("9 by 7 and 10", 3, 10, true, -1);
        step("9 by 7 and 12", 3, 12, true, 0);
        step("36 by 13 and 10", 6, 10, true, -2);
        step("36 by 13 and 12", 6, 12, true, -1);
        Check.under("II. the step: of two as near the one nearer to 0");
        step("-9 by 18, -0.5", 3, 11, false, 0);
        step("-36 by 24, -1.5", 6, 11, false, 1);
        step("-100 by 40, -2.5", 10, 19, false, 2);
        step("9 by 18, 0.5", 3, 11, true, 0);
        step("36 by 24, 1.5", 6, 11, true, -1);
        step("100 by 40, 2.5", 10, 19, true, -2);
        Check.under("II. the step: 0 by a SUM of 0");
        step("0 by 1 and 1", 0, 1, false, 0);
        Check.under("II. along the RING all FLOWS become less by the step");
        // -100 by 21 and 19 is -2.5: less by -2 along EDGE 1; EDGE 0 is gone through the other way.
        RingWaters x = Tape.told("well w 9;joint a 10 at 0;pipe w a 1;pipe w a 19");
        early(x, 1, 8, 2);
        x = Tape.told("well w 9;joint a 10 at 0;pipe a w 1;pipe a w 19");
        early(x, 1, -8, -2);
        Check.under("II. A SWEEP: all RINGS, in order");
        // RING of EDGE 1: -64 by 1 and 17: -3.56, so f1 is 4, f0 4; then that of EDGE 2: -16 by 1 and 9: -1.6, so 2.
        x = Tape.told("well w 9;joint a 8 at 0;pipe w a 1;pipe w a 1;pipe w a 1");
        early(x, 1, 2, 4, 2);
    }

    private static void stepsHeld() {
        Check.under("II. the step held to -1,000 .. 1,000");
        // Two pumps: STEEP 2. EDGE 1 beside: SUM is 0 less its LIFT, and that of EDGE 0.
        RingWaters x = Tape.told("well w 0;joint a 0 at 0;pump w a 0;pump w a 20");
        early(x, 1, -1000, 1000);
        x = Tape.told("well w 0;joint a 0 at 0;pump w a 0;pump w a 21");
        early(x, 1, -1000, 1000);
        x = Tape.told("well w 0;joint a 0 at 0;pump w a 0;pump w a 19");
        early(x, 1, -950, 950);
        x = Tape.told("well w 0;joint a 0 at 0;pump w a 20;pump w a 0");
        early(x, 1, 1000, -1000);
        x = Tape.told("well w 0;joint a 0 at 0;pump w a 300;pump w a 0");
        early(x, 1, 1000, -1000);
        x = Tape.told("well w 0;joint a 0 at 0;pump w a 19;pump w a 0");
        early(x, 1, 950, -950);
        // -6,000 and -4 by 5 and 1: -1,000.67, so -1,001, held; -6,000 and 4 by 6: -999.33.
        x = Tape.told("well w 0;joint a 2 at 0;pipe w a 1;pump w a 60");
        early(x, 1, 2 - 1000, 1000);
        x = Tape.told("well w 0;joint a 2 at 0;pipe w a 1;pump a w 60");
        early(x, 1, 2 + 999, 999);
        // b -> w, w -> a (4), a -> b against the pump (7,000): by 1, 5 and 1: 1,000.57, so 1,001, held.
        x = Tape.told("well w 0;joint a 2 at 0;joint b 0 at 0;pipe w a 1;pump b a 70;pipe b w 1");
        early(x, 1, 2 - 1000, 1000, -1000);
        // w -> b, b -> a against the pump (7,000), a -> w (-4): 6,996 by 7 is 999.43.
        x = Tape.told("well w 0;joint a 2 at 0;joint b 0 at 0;pipe w a 1;pump a b 70;pipe w b 1");
        early(x, 1, 2 + 999, 999, -999);
    }

    private static void sweeps() {
        Check.under("II. SWEEPS, till one in which all steps are 0: that one counts");
        RingWaters x = Tape.told("well w 9;joint a 1 at 0;pipe w a 1");
        solved(x, true, 1, 1, 0, 0);
        // -1 by 1 and 3: no step.
        x = Tape.told("well w 9;joint a 1 at 0;pipe w a 1;pipe w a 1");
        solved(x, true, 1, 1, 0, 0);
        flows(x, 1, 0);
        // -16 by 1 and 9: -1.6; then 4 less 4.
        x = Tape.told("well w 9;joint a 4 at 0;pipe w a 1;pipe w a 1");
        solved(x, true, 1, 2, 0, 0);
        early(x, 0, 4, 0);
        early(x, 1, 2, 2);
        early(x, 2, 2, 2);
        flows(x, 2, 2);
        Check.under("II. all steps: one RING that moves is enough for another SWEEP");
        // First SWEEP as above: 2, 4, 2. Then EDGE 1: 16 less 4 by 9 and 5: 0.86, so f1 is 3, f0 3;
        // EDGE 2: 4 less 9 by 5 and 7: -0.42, 0. Then 0 by 14, and -5 by 12 again: no step.
        x = Tape.told("well w 9;joint a 8 at 0;pipe w a 1;pipe w a 1;pipe w a 1");
        early(x, 2, 3, 3, 2);
        flows(x, 3, 3, 2);
        solved(x, true, 1, 3, 0, 0);
        Check.answers("SUM left", x, x.sum(1, 0), -5);
    }

    private static void sixtySweeps() {
        Check.under("II. 60 SWEEPS at most; AT REST also if the 60th SWEEP moved something still");
        // By f0 1, f1 0 SUM is -600 and 300: -150. By f0 -149, f1 150 it is 300: 150. So to and fro.
        RingWaters x = Tape.told("well w 0;joint a 1 at 1;pump w a 3;pump w a 6");
        solved(x, true, 1, 60, 0, 0);
        early(x, 58, 1, 0);
        early(x, 59, -149, 150);
        early(x, 60, 1, 0);
        flows(x, 1, 0);
        Check.under("II. 60 SWEEPS, of which the circle has 13: 60 are 4 times 13, and 8");
        // f1 (f0 is 2 less f1): 0, by -900 and 500: 200; then by 500: less 250, till it is below 10; below 10 by -900: more by 450.
        long[] circle = {0, 200, -50, 400, 150, -100, 350, 100, -150, 300, 50, -200, 250};
        x = Tape.told("well w 0;joint a 2 at 2;pump w a 5;pump w a 9");
        for (int n = 0; n <= 60; n++) {
            Check.answers("f1 behind " + n, x, x.early(1, n), circle[n % 13]);
        }
        early(x, 60, 152, -150);
        Check.under("II. 60 SWEEPS: circles of 3 .. 21 SWEEPS");
        // f0 is 20 less f1, so one pump of both lifts: by the second f1 is 50 times k more, by the first, of 1, 50 less.
        for (int k = 2; k <= 20; k++) {
            x = Tape.told("well w 0;joint a 20 at 0;pump w a 1;pump w a " + k);
            for (int n : new int[] {0, 1, 2, k, k + 1, k + 2, 7, 15, 16, 31, 32, 33, 58, 59, 60}) {
                int turn = n % (k + 1);
                Check.answers("f1 by " + k + " behind " + n, x, x.early(1, n), turn == 0 ? 0 : 50 * (k + 1 - turn));
            }
        }
        Check.under("II. 60 SWEEPS: circles that come back to FLOWS of 0 everywhere");
        // Nobody draws: by 0 both lift, so f1 is 50 times k less 1 more; then 50 less.
        for (int k = 2; k <= 20; k++) {
            x = Tape.told("well w 0;joint a 0 at 0;pump w a 1;pump w a " + k);
            for (int n : new int[] {0, 1, 2, k - 1, k, k + 1, 15, 16, 31, 32, 58, 59, 60}) {
                int turn = n % k;
                Check.answers("f1 by " + k + " behind " + n, x, x.early(1, n), turn == 0 ? 0 : 50 * (k - turn));
            }
        }
        Check.under("II. 60 SWEEPS: no circle in 60");
        // f1 and f2 are one; f0 19 less these. Held to 1,000 by the pump of 300; then 100 by 3, 33 less, 30 times, to 10,
        // the 31st to -23; then 1,000 more, 977; then 33 less 27 times.
        x = Tape.told("well w 0;joint a 19 at 0;joint b 0 at 0;pump w a 1;pump w b 300;pump b a 0");
        early(x, 1, 19 - 1000, 1000, 1000);
        early(x, 2, 19 - 967, 967, 967);
        early(x, 31, 9, 10, 10);
        early(x, 32, 42, -23, -23);
        early(x, 33, 19 - 977, 977, 977);
        early(x, 60, 19 - 86, 86, 86);
    }

    /** As above, by six pumps: -30,000 by 6, held; then 100 by 6, 17 less each, till EDGE 0 has 10, by which it lifts nothing. */
    private static RingWaters slowly(int draws) {
        return Tape.told("well w 0;joint a " + draws + " at 0;joint b 0 at 0;joint c 0 at 0;joint e 0 at 0;joint f 0 at 0;"
                + "pump w a 1;pump w b 300;pump b c 0;pump c e 0;pump e f 0;pump f a 0");
    }

    private static void theSixtieth() {
        Check.under("II. 59 SWEEPS: the 59th moves nothing");
        // 1,000 less 57 times 17 is 31: 41 less 31 is 10.
        RingWaters x = slowly(41);
        solved(x, true, 1, 59, 0, 0);
        early(x, 57, 41 - 48, 48, 48, 48, 48, 48);
        early(x, 58, 10, 31, 31, 31, 31, 31);
        early(x, 60, 10, 31, 31, 31, 31, 31);
        flows(x, 10, 31, 31, 31, 31, 31);
        Check.under("II. 60 SWEEPS: the 60th moves nothing");
        // 40 less 31 is 9; 58 times 17 leaves 14.
        x = slowly(40);
        solved(x, true, 1, 60, 0, 0);
        early(x, 58, 9, 31, 31, 31, 31, 31);
        early(x, 59, 26, 14, 14, 14, 14, 14);
        early(x, 60, 26, 14, 14, 14, 14, 14);
        flows(x, 26, 14, 14, 14, 14, 14);
        Check.under("II. 60 SWEEPS: the 60th moves still");
        // 24 less 14 is 10, 23 less 14 is 9: the 60th makes -3 of 14.
        early(slowly(24), 60, 10, 14, 14, 14, 14, 14);
        early(slowly(23), 59, 9, 14, 14, 14, 14, 14);
        early(slowly(23), 60, 26, -3, -3, -3, -3, -3);
        Check.under("II. a FLOW below 0 behind the 60th is looked at: EDGE 1, the least of these, is SHUT, so a new ROUND begins");
        // Without EDGE 1 there is no RING; all hang behind a and draw nothing: 0 in each, so the net stays so, unless the
        // well's HEAD and 300 is more than that of b. It is, as b has HEAD of a, 0: opened and SHUT by turns, SHUT in the 20th.
        x = slowly(23);
        solved(x, false, 20, 1, 0, 2);
        flows(x, 23, 0, 0, 0, 0, 0);
        heads(x, 0, 0, 0);
    }

    private static void shutting() {
        Check.under("II. a check or pump, open, of met JOINTS, with a FLOW below 0 is SHUT; by FLOW 0 it is not");
        for (String kind : new String[] {"check", "pump"}) {
            RingWaters x = Tape.told("well w 9;joint a 0 at 0;" + kind + " a w 1");
            solved(x, true, 1, 1, 0, 0);
            x.draw(1, 1);
            solved(x, true, 2, 1, 2, 1);
        }
        Check.under("II. a pipe is never SHUT");
        RingWaters x = Tape.told("well w 9;joint a 60 at 0;pipe a w 1");
        solved(x, true, 1, 1, 0, 0);
        flows(x, -60);
        Check.under("II. SHUT: and a new ROUND begins, from BEGIN");
        // f0 -4, by 16 by 10 to -2 and -2. EDGE 0 is SHUT; f1 -4, EDGE 1 is SHUT; a is DRY.
        x = Tape.told("well w 9;joint a 4 at 0;check a w 1;check a w 1");
        early(x, 60, -2, -2);
        solved(x, true, 3, 1, 2, 3);
    }

    private static void leastNumberIsShut() {
        Check.under("II. SHUT is the one with the least number");
        // w meets y by y -> w, c; y meets x by x -> y. At BEGIN x -> y has -1, y -> w -2, w c 1.
        // RING c -> x -> y -> w -> c: -1, -4, 1 by 1, 3, 5, 3: -0.33: no step.
        // x -> y first: it is SHUT, then y -> w (-1), then y is DRY, x -> y is opened: 4 ROUNDS.
        RingWaters x = Tape.told("well w 9;joint y 1 at 0;joint c 1 at 0;joint x 1 at 0;check x y 1;check y w 1;pipe w c 1;pipe c x 1");
        early(x, 60, -1, -2, 1, 0);
        solved(x, true, 4, 1, 0, 2);
        flows(x, 1, 0, 3, 2);
        // y -> w first: then all hang in a row behind c: 2 ROUNDS.
        x = Tape.told("well w 9;joint y 1 at 0;joint c 1 at 0;joint x 1 at 0;check y w 1;check x y 1;pipe w c 1;pipe c x 1");
        early(x, 60, -2, -1, 1, 0);
        solved(x, true, 2, 1, 0, 1);
        flows(x, 0, 1, 3, 2);
    }

    private static void shuttingComesFirst() {
        Check.under("II. Else: while one has a FLOW below 0, none is opened");
        // w meets a, c, z; a meets b by b -> a: at BEGIN 2, -1, 0, 0, -1.
        // RING c -> b -> a -> w -> c: -20, -12 by 1, 60, 15, 1: -0.42: no step.
        // ROUND 1 shuts b -> a. ROUND 2: b hangs on c: HEADS 97 of a, 98 of b; b -> a could be opened, but z -> w has -1:
        // it is SHUT. From here on odd ROUNDS open b -> a, even ones shut it, but the 20th, which shuts nothing more.
        RingWaters x = Tape.told("well w 1;joint a 1 at 0;joint c 0 at 0;joint b 1 at 0;joint z 1 at 0;"
                + "pipe w a 3;check b a 20;pipe w c 1;pipe c b 1;check z w 1");
        early(x, 60, 2, -1, 0, 0, -1);
        solved(x, false, 20, 1, 16, 16);
        flows(x, 2, -1, 0, 0, 0);
        heads(x, 100, 100 - 12, 100, 100 - 12 - 20);
    }

    private static void opening() {
        Check.under("II. opened is one that is SHUT, of which the FIRST isn't DRY, and the SECOND is DRY");
        // w meets b, a. RING b -> a -> w -> b: 0, -3, 196 by 3, 9, 60: 2.68, so 3; then -27, -48, 64 by 21, 27, 36: 0.
        // b -> a has -3: SHUT. Then a -> w -1: SHUT. a is DRY, b isn't: b -> a is opened.
        RingWaters x = Tape.told("well w 0;joint a 1 at 0;joint b 7 at 0;pipe b w 4;check b a 3;check a w 3");
        early(x, 1, -4, -3, -4);
        early(x, 60, -4, -3, -4);
        solved(x, true, 4, 1, 0, 4);
        flows(x, -8, 1, 0);
        heads(x, 0, -256 - 3, -256);
        Check.under("II. not opened: the FIRST is DRY");
        x = Tape.told("well w 9;joint a 1 at 0;joint b 1 at 0;check a w 1;check b a 1");
        // a -> w has -2: SHUT, both are DRY; b -> a was never SHUT.
        solved(x, true, 2, 1, 6, 1);
        x = Tape.told("well w 9;joint a 1 at 0;joint b 1 at 0;check b a 1;check a w 1");
        // b -> a has -1: SHUT; a -> w has -1: SHUT. FIRST of both is DRY, SECOND of b -> a, too.
        solved(x, true, 3, 1, 6, 3);
    }

    private static void openingByHeads() {
        // As in shuttingComesFirst, without z: -20 and 0 less 4 r by 62 and 5 r is nearer to 0 than a half.
        // ROUND 2: HEADS 100 less r of a, 98 of b, the FIRST.
        String before = "well w 1;joint a 1 at 0;joint c 0 at 0;joint b 1 at 0;pipe w a ";
        String behind = ";check b a 20;pipe w c 1;pipe c b 1";
        Check.under("II. opened: the SECOND has less HEAD than the FIRST; not by the same HEAD");
        RingWaters x = Tape.told(before + 2 + behind);
        early(x, 60, 2, -1, 0, 0);
        solved(x, true, 2, 1, 0, 2);
        heads(x, 100, 98, 99, 98);
        x = Tape.told(before + 1 + behind);
        solved(x, true, 2, 1, 0, 2);
        heads(x, 100, 99, 99, 98);
        Check.under("II. opened: the SECOND has 1 less HEAD, again and again");
        x = Tape.told(before + 3 + behind);
        solved(x, false, 20, 1, 0, 2);
        heads(x, 100, 97, 99, 98);
        flows(x, 1, 0, 1, 1);
    }

    private static void openingByLift() {
        Check.under("II. opened: HEAD of the FIRST and LIFT by FLOW 0, of a pump; not by the same");
        // a draws 5, b 5: f0 -10, f2 -5. RING w -> a -> w: -100 by 5: f1 20, f0 10 (no LIFT); 1,600 by 165, 9.7: 10, 0;
        // 300 by 85, 3.5: 6, -4; 44 by 53: 5, -5; 0. The pump a -> w is SHUT, then b -> a. Then f1 is 5, HEAD of a
        // 4,000 less 100; 100 more by the pump: as much as the well's.
        RingWaters x = Tape.told("well w 40;joint a 5 at 0;joint b 5 at 0;pump a w 1;pipe w a 4;check b a 1");
        early(x, 1, 10, 20, -5);
        early(x, 2, 0, 10, -5);
        early(x, 3, -4, 6, -5);
        early(x, 60, -5, 5, -5);
        solved(x, true, 3, 1, 4, 5);
        flows(x, 0, 5, 0);
        // a draws 4: f0 -9; 20, 11; 10, 1; 6, -3; 5, -4. SHUT, as b -> a is. Then HEAD of a is 3,936, and 100 more than
        // 4,000: opened. f0 -4: 20, 16; 10, 6; 6, 2; 5, 1; 0.
        x = Tape.told("well w 40;joint a 4 at 0;joint b 5 at 0;pump a w 1;pipe w a 4;check b a 1");
        early(x, 60, -4, 5, -5);
        solved(x, true, 4, 5, 4, 4);
        flows(x, 1, 5, 0);
        Check.under("II. LIFT by FLOW 0: not the one by another FLOW");
        // As above, by numbers that go on: 1 by 0 .. 9, 0 by 10 .. 19.
        x = Tape.told("well w 40;joint a 5 at 0;joint b 5 at 0;pump a w 1,0;pipe w a 4;check b a 1");
        solved(x, true, 3, 1, 4, 5);
        // Pumps of 5, 9: see sixtySweeps. f1 is -150: SHUT. HEAD of a 500, the well's and LIFT 900: opened, again and again.
        x = Tape.told("well w 0;joint a 2 at 2;pump w a 5;pump w a 9");
        solved(x, false, 20, 1, 0, 2);
        heads(x, 0, 500);
        flows(x, 2, 0);
    }

    /**
     * x is told after all that it stands FIRST to, so it hangs on p by the first EDGE, and that has -1. In all ROUNDS no
     * RING has a step: by an EDGE x -> q: q -> w -1, p -> w 4, x -> p 1, by 1, 3, 5, 3; by c -> x: -1, -4, 1 by 1, 3, 5, 3;
     * by two EDGES side by side: 1 by 1, 3. So EDGES from x are SHUT one by one, as x hangs by the next; then it hangs
     * on c. Then those to the well are SHUT, one by one; all they came from are DRY. Then EDGES from x are opened one
     * by one, the second to the same JOINT, too, as that has 1 less HEAD than x. Those to the well stay SHUT.
     */
    private static void twentyRounds() {
        Check.under("II. 20 ROUNDS at most: AT REST in the 20th");
        // 7 are SHUT, 5 are SHUT, 7 are opened: 19 ROUNDS, and one more.
        RingWaters x = Tape.told("well w 9;joint c 1 at 0;joint x 1 at 0;joint p 1 at 0;joint q 1 at 0;joint r 1 at 0;"
                + "joint s 1 at 0;joint t 1 at 0;check x p 1;check x p 1;check x q 1;check x q 1;check x r 1;check x s 1;"
                + "check x t 1;check p w 1;check q w 1;check r w 1;check s w 1;check t w 1;pipe w c 1;pipe c x 1");
        early(x, 60, -1, 0, 0, 0, 0, 0, 0, -2, -1, -1, -1, -1, 1, 0);
        solved(x, true, 20, 1, 0, 0xf80);
        flows(x, 1, 0, 1, 0, 1, 1, 1, 0, 0, 0, 0, 0, 7, 6);
        heads(x, 900, 851, 815, 814, 814, 814, 814, 814);
        Check.under("II. 20 ROUNDS at most: not AT REST, if it took 21");
        // 8 are SHUT, 4 are SHUT, 7 are opened: in the 20th ROUND the last one, EDGE 7, isn't.
        x = Tape.told("well w 9;joint c 1 at 0;joint x 1 at 0;joint p 1 at 0;joint q 1 at 0;joint r 1 at 0;"
                + "joint s 1 at 0;check x p 1;check x p 1;check x q 1;check x q 1;check x r 1;check x r 1;check x s 1;"
                + "check x s 1;check p w 1;check q w 1;check r w 1;check s w 1;pipe w c 1;pipe c x 1");
        solved(x, false, 20, 1, 0, 0xf80);
        Check.under("II. opened is the one with the least number");
        flows(x, 1, 0, 1, 0, 1, 0, 1, 0, 0, 0, 0, 0, 6, 5);
        Check.answers("the first is open", x, x.edge(0, 5), 0);
        Check.answers("the last isn't", x, x.edge(7, 5), 1);
    }

    /**
     * Without those ahead: w meets c by EDGE 0, a by 1; c, ahead of a, meets b by 3, if that is open.
     * None SHUT: f -16, -5, 0, -5, 0. RING of 2: -75, 512 by 5, 33, 66: 4.2: -12, -9, -4, -5, 0; that of 4: -243, 288
     * by 1, 57, 50, 1: 0.4; then -80, -243, 288 by 45, 57, 50: -0.2. EDGE 2 is SHUT.
     * 2 SHUT: -16, -5, 0, -5, 0. RING of 4: 437 by 101: 4.3: -12, -9, 0, -1, -4; then -16, -243, 288 by 117: 0.2. EDGE 3
     * is SHUT.
     * 2, 3 SHUT: no RING, b hangs on a by 4: -11, -10, 0, 0, -5. HEADS 900 less 242 of c, less 300 of a: 2 is opened.
     * 3 SHUT: RING of 2: -300, 242 by 5, 63, 46: -0.51: -12, -9, 1, 0, -5; then 5, -243, 288 by 15, 57, 50: 0.4. HEADS
     * 612 of c, 632 of b: 3 is opened, and none is SHUT again.
     * Each check ahead of these has -1, as its JOINT draws 1: it is SHUT first, one a ROUND; its JOINT is DRY, so it stays so.
     */
    private static void circlesOfFourRounds() {
        String[] shut = {"none", "2", "2, 3", "3"};
        int[] bits = {0, 4, 12, 8};
        int[] sweeps = {2, 2, 1, 2};
        long[][] flows = {{-12, -9, -4, -5, 0}, {-12, -9, 0, -1, -4}, {-11, -10, 0, 0, -5}, {-12, -9, 1, 0, -5}};
        long[][] heads = {{900, 657, 612, 612}, {900, 657, 612, 612}, {900, 600, 575, 658}, {900, 657, 632, 612}};
        for (int ahead = 0; ahead <= 3; ahead++) {
            int turn = (19 - ahead) % 4;
            Check.under("II. 20 ROUNDS at most: four by turns, " + ahead + " ahead of these, SHUT in the 20th: " + shut[turn]);
            StringBuilder text = new StringBuilder("well w 9;joint a 5 at 0;joint b 5 at 0;joint c 11 at 0");
            for (int i = 0; i < ahead; i++) {
                text.append(";joint ").append((char) ('x' + i)).append(" 1 at 0;check ").append((char) ('x' + i)).append(" w 1");
            }
            text.append(";pipe c w 2;pipe a w 3;check c a 5;pump b c 0;pipe b a 1");
            RingWaters x = Tape.told(text.toString());
            int first = (1 << ahead) - 1;
            solved(x, false, 20, sweeps[turn], first << 4, first | bits[turn] << ahead);
            for (int e = 0; e < 5; e++) {
                Check.answers("FLOW of " + e, x, x.flow(ahead + e), flows[turn][e]);
            }
            heads(x, heads[turn]);
        }
    }

    private static void noMoreInTheTwentieth() {
        Check.under("II. the 20th ROUND opens nothing more");
        RingWaters x = Tape.told("well w 0;joint a 2 at 2;pump w a 5;pump w a 9");
        solved(x, false, 20, 1, 0, 2);
        Check.under("II. the 20th ROUND shuts nothing more: all is as the last SWEEP left it");
        // ROUND 1 shuts the check. From here on even ROUNDS end with f2 -150 and shut EDGE 2, odd ones open it.
        x = Tape.told("well w 0;joint a 2 at 2;joint b 1 at 0;check b w 1;pump w a 5;pump w a 9");
        solved(x, false, 20, 60, 4, 1);
        flows(x, 0, 152, -150);
        heads(x, 0, 0);
        Check.answers("a RING", x, x.about(2), 1);
        Check.answers("its SUM, by LIFTS 0 and 900", x, x.sum(0, 0), -900);
        Check.answers("what pumps do, one below 0", x, x.work(), -150 * 900);
        Check.answers("LOSS by a FLOW below 0", x, x.loss(2), -900);
    }

    private static void solvedAnew() {
        Check.under("II. TO SOLVE: none is SHUT at first, behind each act, too");
        RingWaters x = Tape.told("well w 9;joint a 1 at 0;check a w 1");
        Check.answers("SHUT", x, x.about(9), 1);
        x.draw(1, 0);
        solved(x, true, 1, 1, 0, 0);
        x.draw(1, 5);
        solved(x, true, 2, 1, 2, 1);
        x.undo();
        solved(x, true, 1, 1, 0, 0);
        Check.under("II. TO SOLVE: on paper, too");
        x.draw(1, 5);
        Check.answers("by 0 none is SHUT", x, x.scaled(0), 900);
        Check.nothing("by 20 it is", x, x.scaled(20), 5);
        Check.answers("by 19 it isn't: 0.95 is 0", x, x.scaled(19), 900);
    }

    private static void headsAndPressures() {
        Check.under("II. HEAD of a JOINT that hangs: of the one on which, less LOSS along the way; 0 less LOSS the other way");
        RingWaters x = Tape.told("well w 9;joint a 2 at 0;joint b 1 at 0;pipe w a 3;pipe b a 2;pump b w 1");
        x.valve(2, true);
        heads(x, 900, 900 - 3 * 9, 900 - 3 * 9 - 2);
        x = Tape.told("well w 9;joint a 3 at 0;pump w a 4");
        heads(x, 900, 900 + 400);
        x = Tape.told("well w 9;joint a 0 at 0;pump a w 4");
        heads(x, 900, 900 - 400);
        Check.under("II. PRESSURE: HEAD less height (of the well 0)");
        x = Tape.told("well w 9;joint a 0 at 9;joint b 0 at 10;joint c 0 at 8;pipe w a 1;pipe w b 1;pipe w c 1");
        Check.answers("of the well", x, x.pressure(0), 0);
        Check.answers("0", x, x.pressure(1), 0);
        Check.answers("below 0", x, x.pressure(2), -100);
        Check.answers("above 0", x, x.pressure(3), 100);
    }
}
