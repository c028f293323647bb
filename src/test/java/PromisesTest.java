import static java.lang.Integer.MAX_VALUE;
import static java.lang.Integer.MIN_VALUE;

import java.util.function.IntToLongFunction;

/**
 * Promises 2 to 41, sentence by sentence: of each number that a call takes the last that is taken and the first that is
 * refused, on both sides; what is empty, what is full. (Promise 1, a new object: TextTest. What is refused without a TEXT,
 * and by which of several numbers: TermsActsTest.) The numbers were found by hand.
 */
public final class PromisesTest {
    private static final String TINY = "well w 9;joint a 1 at 0;pipe w a 1";
    private static final String STAR = "well w 9;joint a 0 at 0;joint b 0 at 0;joint c 0 at 0;joint d 0 at 0;joint e 0 at 0;"
            + "joint f 0 at 0;joint g 0 at 0;joint h 0 at 0;pipe w a 1;pipe w b 1;pipe w c 1;pipe w d 1;pipe w e 1;"
            + "pipe w f 1;pipe w g 1;pipe w h 1";
    /** 9 JOINTS, 14 EDGES, 6 RINGS; none draws, so all FLOWS are 0, all HEADS 900. */
    private static final String FULL = STAR + ";pipe a b 1;pipe b c 1;pipe c d 1;pipe d e 1;pipe e f 1;pipe f g 20";
    /** JOINT 2 is DRY: b -> a has -3 at BEGIN, is SHUT. EDGE 0 has 5, HEAD of a is 9,950. */
    private static final String DRY = "well w 100;joint a 5 at 10;joint b 3 at 90;pipe w a 2;check b a 4";

    public static void main(String[] args) {
        feed();
        text();
        textBeginsAnew();
        faultAndWhere();
        about();
        edge();
        flowAndLoss();
        joint();
        headAndPressure();
        weakest();
        ring();
        sum();
        early();
        work();
        gap();
        balance();
        lossAt();
        behind();
        scaled();
        most();
        pairs();
        fire();
        fireByMoreButNotByNone();
        cut();
        vital();
        widenAndWidened();
        measure();
        forget();
        off();
        leak();
        valve();
        draw();
        well();
        resist();
        undo();
        named();
        size();
        trouble();
        everyCallOnAFullNet();
        Check.end();
    }

    // ---- how a number is tried

    /** Refused by an int call; each bad number on the same object. */
    private static void none(String what, RingWaters x, int why, IntToLongFunction call, int... bad) {
        for (int n : bad) {
            Check.refused(what + " " + n, x, call.applyAsLong(n), why);
        }
    }

    /** Refused by a long call. */
    private static void nothing(String what, RingWaters x, int why, IntToLongFunction call, int... bad) {
        for (int n : bad) {
            Check.nothing(what + " " + n, x, call.applyAsLong(n), why);
        }
    }

    // ---- texts

    private static void feed() {
        Check.under("2 Twenty bytes come behind THE TAPE: how many it has");
        RingWaters x = new RingWaters();
        Check.due("first", x.feed(0, 0, 0, 0, 0), 20);
        for (int i = 2; i < 30; i++) {
            x.feed(-1, -1, -1, -1, -1);
        }
        Check.due("580", x.size(), 580);
        Check.due("the last that comes", x.feed(1, 2, 3, 4, 5), 600);
        Check.under("2 NONE, and none comes, if there would be more than 600 (trouble() stays)");
        Check.due("trouble ahead of it", x.trouble(), 0);
        for (int i = 0; i < 3; i++) {
            Check.due("one more", x.feed(1, 2, 3, 4, 5), -1);
            Check.due("none comes", x.size(), 600);
            Check.due("trouble", x.trouble(), 0);
        }
        x.about(0);
        x.feed(1, 2, 3, 4, 5);
        Check.due("trouble of the call ahead", x.trouble(), 1);
        x.text(600);
        Check.due("empty: it comes again", x.feed(0, 0, 0, 0, 0), 20);
        Check.under("2 of each number the highest first");
        // "well w 7" "8;joint " "a 0 at 0" ";pipe w " "a 1" and blanks: bytes in order, the numbers in order.
        x = new RingWaters();
        x.feed(0x77656c6c, 0x20772037, 0x383b6a6f, 0x696e7420, 0x61203020);
        x.feed(0x61742030, 0x3b706970, 0x65207720, 0x61203120, 0x20202020);
        Check.answers("a TEXT", x, x.text(40), 2);
        Check.answers("78", x, x.head(0), 7800);
        Check.under("2 a byte of 128 or more");
        x.feed(0x80000000, 0, 0, 0, 0);
        Check.refused("128", x, x.text(20), 4);
        Check.due("at 0", x.where(), 0);
        x.feed(0x2020e120, 0, 0, 0, 0);
        Check.refused("225, a letter less 128", x, x.text(4), 4);
        Check.due("at 2", x.where(), 2);
    }

    private static void text() {
        Check.under("3 NONE: 2 (n): an empty TAPE");
        RingWaters x = new RingWaters();
        none("n", x, 2, x::text, MIN_VALUE, -1, 1, 20, 600, MAX_VALUE);
        Check.due("no FAULT by these", x.fault(), 0);
        Check.refused("0 bytes are a TEXT, with a FAULT", x, x.text(0), 4);
        Check.due("FORM", x.fault(), 1);
        Check.due("at its end", x.where(), 0);
        Check.under("3 NONE: 2 (n): 40 bytes");
        Tape.feed(x, TINY + "      ");
        none("n", x, 2, x::text, MIN_VALUE, -1, 41, 600, 601, MAX_VALUE);
        Check.due("all there still", x.size(), 40);
        Check.answers("all 40", x, x.text(40), 2);
        Check.due("empty then", x.size(), 0);
        none("n", x, 2, x::text, 1, 40);
        Check.under("3 NONE: 2 (n): a full TAPE");
        Tape.feed(x, TINY + " ".repeat(600 - TINY.length()));
        none("n", x, 2, x::text, 601, MAX_VALUE, -1);
        Check.answers("all 600", x, x.text(600), 2);
        Check.under("3 The first n bytes of THE TAPE (it is empty then)");
        Tape.feed(x, TINY + "1 rest");
        Check.answers("the first 34", x, x.text(34), 2);
        Check.answers("RESIST 1", x, x.edge(0, 3), 1);
        Check.due("the rest is gone, too", x.size(), 0);
        Tape.feed(x, TINY + "1 rest");
        Check.answers("the first 35", x, x.text(35), 2);
        Check.answers("RESIST 11", x, x.edge(0, 3), 11);
        Check.under("3 how many JOINTS (with the well): 2 at least, 9 at most");
        Check.answers("2", x, Tape.tell(x, TINY), 2);
        Check.answers("9", x, Tape.tell(x, STAR), 9);
    }

    private static void textBeginsAnew() {
        Check.under("3 all that there was is gone (measured HEADS, too)");
        RingWaters x = Tape.told(FULL);
        x.measure(8, 5);
        x.valve(0, true);
        x.draw(1, 9);
        x.resist(1, 9);
        x.leak(0);
        Tape.tell(x, TINY);
        int[] due = {2, 1, 0, 1, 1, 1, 1, 0, 0, 0, 0};
        for (int what = 0; what <= 10; what++) {
            Check.answers("about " + what, x, x.about(what), due[what]);
        }
        Check.refused("EDGES", x, x.edge(1, 0), 1);
        Check.refused("JOINTS", x, x.joint(2, 0), 1);
        Check.refused("RINGS", x, x.ring(0, 0), 1);
        Check.nothing("measured", x, x.leak(0), 5);
        Check.refused("acts", x, x.undo(), 5);
        Check.answers("CLOSED", x, x.edge(0, 4), 0);
        Check.answers("HEAD", x, x.head(1), 899);
        Tape.feed(x, "h");
        Check.noSuch("NAMES", x, 1);
        Check.under("3 all that there was is gone: what was SHUT, LIFTS");
        x.text(0);
        Tape.tell(x, "well w 9;joint a 1 at 0;joint b 0 at 0;check a w 1;pump b w 6,5,4,3,2,1");
        Check.answers("SHUT by the first", x, x.about(9), 1);
        Tape.tell(x, "well w 9;joint a 1 at 0;joint b 0 at 0;check w a 1;pump w b 3");
        Check.answers("SHUT", x, x.about(9), 0);
        Check.answers("a second LIFT", x, x.lossAt(1, 10, 0), 0);
        Check.under("3 all that there was is gone: a longer RING, more of them");
        Tape.tell(x, "well w 9;joint a 1 at 0;joint b 2 at 0;joint c 3 at 0;joint d 4 at 0;pipe w a 1;pipe a b 2;pipe b c 3;"
                + "pipe w d 4;pipe d c 5;pipe a d 6;pipe b d 7");
        x.gap(0);
        // Its RING has EDGES 2, 1, 0: the third is one of the next TEXT's, too.
        Tape.tell(x, "well w 9;joint a 1 at 0;joint b 1 at 0;pipe w a 1;pipe w b 1;pipe a b 1");
        x.gap(0);
        x.scaled(300);
        Tape.tell(x, "well w 9;joint a 4 at 0;pipe w a 1;pipe w a 1");
        // -16 by 1 and 9: 2 in either.
        Check.answers("gap", x, x.gap(0), 16);
        Check.answers("FLOW", x, x.flow(0), 2);
        Check.answers("FLOW beside it", x, x.flow(1), 2);
        Check.answers("SUM", x, x.sum(0, 0), 0);
        Check.answers("STEEP", x, x.sum(0, 1), 10);
        Check.answers("its second EDGE", x, x.ring(0, 1), 0);
        Check.answers("no third", x, x.ring(0, 2), -2);
        Check.answers("RINGS through it", x, x.edge(0, 7), 1);
    }

    private static void faultAndWhere() {
        Check.under("4 0 without one, ahead of any");
        RingWaters x = new RingWaters();
        Check.due("ahead of any", x.fault(), 0);
        x.text(5);
        Check.due("refused by 2: ahead of any still", x.fault(), 0);
        Check.under("4 The FAULT of the latest text() not refused by 2");
        Tape.tell(x, "well w 9");
        Check.due("LACKS", x.fault(), 5);
        x.text(1);
        Check.due("refused by 2", x.fault(), 5);
        x.about(0);
        x.undo();
        Check.due("other calls", x.fault(), 5);
        Tape.tell(x, "well w 9;joint w 1 at 0");
        Check.due("NAME", x.fault(), 3);
        Tape.tell(x, TINY);
        Check.due("without one", x.fault(), 0);
        Check.under("5 Its place, if the latest call that may be refused was by 4; NONE else");
        x = new RingWaters();
        Check.due("new", x.where(), -1);
        x.text(0);
        Check.due("place 0", x.where(), 0);
        Check.due("asked again", x.where(), 0);
        x.about(0);
        Check.due("refused by 1", x.where(), -1);
        x.text(0);
        x.text(1);
        Check.due("refused by 2", x.where(), -1);
        Tape.tell(x, TINY);
        x.text(0);
        x.undo();
        Check.due("refused by 5", x.where(), -1);
        x.text(0);
        x.about(0);
        Check.due("not refused", x.where(), -1);
        Tape.feed(x, " ".repeat(600));
        x.text(600);
        Check.due("place 600", x.where(), 600);
        Tape.tell(x, TINY);
        Check.due("a TEXT that is taken", x.where(), -1);
    }

    private static void about() {
        Check.under("6 what 0 .. 10; NONE: 1 (what)");
        RingWaters x = Tape.told(TINY);
        none("what", x, 1, x::about, MIN_VALUE, -1, 11, 12, MAX_VALUE);
        int[] due = {2, 1, 0, 1, 1, 1, 1, 0, 0, 0, 0};
        for (int what = 0; what <= 10; what++) {
            Check.answers("about " + what, x, x.about(what), due[what]);
        }
        Check.under("6 as much as can be: JOINTS, EDGES, RINGS, acts, measured HEADS");
        x = Tape.told(FULL);
        Check.answers("JOINTS", x, x.about(0), 9);
        Check.answers("EDGES", x, x.about(1), 14);
        Check.answers("RINGS", x, x.about(2), 6);
        for (int j = 1; j <= 8; j++) {
            x.measure(j, 0);
        }
        Check.answers("measured", x, x.about(10), 8);
        for (int i = 0; i < 13; i++) {
            x.well(9);
        }
        Check.answers("acts", x, x.about(7), 12);
        Check.under("6 what the well gives (draws of all that aren't DRY): none, as much as can be");
        Check.answers("none", x, x.about(6), 0);
        for (int j = 1; j <= 8; j++) {
            x.draw(j, 60);
        }
        Check.answers("8 times 60", x, x.about(6), 480);
        x = Tape.told(DRY);
        Check.answers("not what the DRY draw", x, x.about(6), 5);
        Check.under("6 DRY JOINTS (bits): the last one, all");
        x = Tape.told(STAR);
        x.valve(7, true);
        Check.answers("the last", x, x.about(8), 256);
        for (int e = 0; e < 7; e++) {
            x.valve(e, true);
        }
        Check.answers("all but the well", x, x.about(8), 510);
        Check.under("6 SHUT EDGES (bits): the last one, all");
        x = Tape.told("well w 9;joint a 1 at 0" + ";pipe w a 1".repeat(13) + ";check a w 1");
        // f0 is 1, so no RING moves (-1 by 3 and 1; 1 by 4): nothing goes through the check.
        Check.answers("none", x, x.about(9), 0);
        x = Tape.told("well w 9;joint a 0 at 0;joint b 1 at 0" + ";pipe w a 1".repeat(13) + ";check b a 1");
        Check.answers("the last", x, x.about(9), 1 << 13);
        x = Tape.told("well w 9;joint a 1 at 0" + ";check a w 1".repeat(14));
        // One by one: -1 by the one in THE TREE, no RING moves (1 by 3 and 1).
        Check.answers("all", x, x.about(9), (1 << 14) - 1);
        Check.answers("ROUNDS", x, x.about(4), 15);
        Check.under("6 SWEEPS of the last ROUND, not of the first");
        x = Tape.told("well w 9;joint a 4 at 0;check a w 1;check a w 1");
        Check.answers("1", x, x.about(5), 1);
    }

    private static void edge() {
        Check.under("7 an EDGE; NONE: 1: the only one");
        RingWaters x = Tape.told(TINY);
        none("e", x, 1, e -> x.edge(e, 0), MIN_VALUE, -1, 1, 2, 14, MAX_VALUE);
        int[] due = {0, 1, 0, 1, 0, 0, 1, 0};
        for (int what = 0; what <= 7; what++) {
            Check.answers("edge what " + what, x, x.edge(0, what), due[what]);
        }
        Check.under("7 NONE: 1 (what, too)");
        none("what", x, 1, what -> x.edge(0, what), MIN_VALUE, -1, 8, 9, MAX_VALUE);
        Check.under("7 an EDGE: the 14th");
        RingWaters y = Tape.told(FULL);
        none("e", y, 1, e -> y.edge(e, 0), MIN_VALUE, -1, 14, 15, MAX_VALUE);
        none("what", y, 1, what -> y.edge(13, what), -1, 8);
        int[] last = {6, 7, 0, 20, 0, 0, 0, 1};
        for (int what = 0; what <= 7; what++) {
            Check.answers("the 14th, what " + what, y, y.edge(13, what), last[what]);
        }
        Check.under("7 what it is (0 pipe, 1 check, 2 pump), RESIST (-2: a pump)");
        RingWaters z = Tape.told("well w 9;joint a 0 at 0;pipe w a 20;check w a 1;pump w a 0");
        for (int e = 0; e < 3; e++) {
            Check.answers("what it is", z, z.edge(e, 2), e);
        }
        Check.answers("20", z, z.edge(0, 3), 20);
        Check.answers("1", z, z.edge(1, 3), 1);
        Check.answers("a pump", z, z.edge(2, 3), -2);
        Check.under("7 CLOSED by hand, SHUT: one is not the other");
        RingWaters s = Tape.told(DRY);
        Check.answers("SHUT, not CLOSED", s, s.edge(1, 4), 0);
        Check.answers("SHUT", s, s.edge(1, 5), 1);
        s.valve(1, true);
        Check.answers("CLOSED", s, s.edge(1, 4), 1);
        Check.answers("CLOSED, not SHUT", s, s.edge(1, 5), 0);
        Check.under("7 how many RINGS go through it: none, all");
        RingWaters r = Tape.told("well w 9;joint a 0 at 0;joint b 0 at 0;pipe w a 1;pipe w a 1;pipe w a 1;pipe a b 1");
        Check.answers("both", r, r.edge(0, 7), 2);
        Check.answers("its own", r, r.edge(2, 7), 1);
        Check.answers("none", r, r.edge(3, 7), 0);
    }

    private static void flowAndLoss() {
        Check.under("8 FLOW. NOTHING: 1");
        RingWaters x = Tape.told(TINY);
        nothing("flow", x, 1, x::flow, MIN_VALUE, -1, 1, 2, 14, MAX_VALUE);
        Check.answers("the only one", x, x.flow(0), 1);
        RingWaters y = Tape.told(FULL);
        y.draw(8, 60);
        nothing("flow", y, 1, y::flow, -1, 14, 15, MAX_VALUE);
        Check.answers("the eighth", y, y.flow(7), 60);
        Check.answers("the 14th", y, y.flow(13), 0);
        Check.under("9 LOSS by its FLOW. NOTHING: 1");
        nothing("loss", x, 1, x::loss, MIN_VALUE, -1, 1, 2, 14, MAX_VALUE);
        Check.answers("the only one", x, x.loss(0), 1);
        nothing("loss", y, 1, y::loss, -1, 14, 15, MAX_VALUE);
        Check.answers("the eighth", y, y.loss(7), 3600);
        Check.answers("the 14th", y, y.loss(13), 0);
        Check.under("9 (of one that isn't open by FLOW 0)");
        RingWaters z = Tape.told("well w 9;joint a 12 at 0;joint b 1 at 0;pump w a 6,5;pump b a 4,3");
        Check.answers("by 12", z, z.loss(0), -500);
        Check.answers("SHUT", z, z.edge(1, 5), 1);
        Check.answers("SHUT: by 0", z, z.loss(1), -400);
        z.valve(0, true);
        Check.answers("CLOSED: by 0", z, z.loss(0), -600);
        z = Tape.told(DRY);
        Check.answers("a SHUT check", z, z.loss(1), 0);
        z.valve(0, true);
        Check.answers("a CLOSED pipe", z, z.loss(0), 0);
    }

    private static void joint() {
        Check.under("10 a JOINT; NONE: 1: the well and another");
        RingWaters x = Tape.told(TINY);
        none("j", x, 1, j -> x.joint(j, 0), MIN_VALUE, -1, 2, 3, 9, MAX_VALUE);
        int[] well = {0, 0, -2, 1};
        int[] a = {1, 0, 0, 1};
        for (int what = 0; what <= 3; what++) {
            Check.answers("the well, what " + what, x, x.joint(0, what), well[what]);
            Check.answers("a, what " + what, x, x.joint(1, what), a[what]);
        }
        Check.under("10 NONE: 1 (what, too)");
        none("what", x, 1, what -> x.joint(0, what), MIN_VALUE, -1, 4, 5, MAX_VALUE);
        none("what", x, 1, what -> x.joint(1, what), -1, 4);
        Check.under("10 a JOINT: the ninth");
        RingWaters y = Tape.told(FULL);
        none("j", y, 1, j -> y.joint(j, 0), -1, 9, 10, MAX_VALUE);
        Check.answers("it hangs by", y, y.joint(8, 2), 7);
        Check.answers("its EDGES", y, y.joint(8, 3), 128);
        Check.answers("the well's EDGES", y, y.joint(0, 3), 255);
        Check.answers("g's EDGES, the 14th, too", y, y.joint(7, 3), 64 + (1 << 13));
        Check.under("10 EDGES (bits) that end there: CLOSED ones, too");
        y.valve(13, true);
        Check.answers("g's", y, y.joint(7, 3), 64 + (1 << 13));
        Check.under("10 the EDGE by which it hangs (-2: the well, DRY)");
        RingWaters z = Tape.told(DRY);
        Check.answers("the well", z, z.joint(0, 2), -2);
        Check.answers("a", z, z.joint(1, 2), 0);
        Check.answers("DRY", z, z.joint(2, 2), -2);
        Check.under("10 what it draws, as told: DRY, too");
        Check.answers("as told", z, z.joint(2, 0), 3);
        Check.answers("height of the DRY", z, z.joint(2, 1), 9000);
    }

    private static void headAndPressure() {
        RingWaters x = Tape.told(TINY);
        Check.under("11 HEAD. NOTHING: 1");
        nothing("head", x, 1, x::head, MIN_VALUE, -1, 2, 3, 9, MAX_VALUE);
        Check.answers("the well's", x, x.head(0), 900);
        Check.answers("a's", x, x.head(1), 899);
        Check.under("12 PRESSURE. NOTHING: 1");
        nothing("pressure", x, 1, x::pressure, MIN_VALUE, -1, 2, 3, 9, MAX_VALUE);
        Check.answers("the well's", x, x.pressure(0), 0);
        Check.answers("a's", x, x.pressure(1), 899);
        RingWaters y = Tape.told(FULL);
        nothing("head", y, 1, y::head, -1, 9);
        nothing("pressure", y, 1, y::pressure, -1, 9);
        Check.answers("the ninth's HEAD", y, y.head(8), 900);
        Check.answers("the ninth's PRESSURE", y, y.pressure(8), 900);
        RingWaters z = Tape.told(DRY);
        Check.under("11 NOTHING: 5 (DRY)");
        nothing("head", z, 5, z::head, 2);
        nothing("head", z, 1, z::head, 3);
        Check.under("12 NOTHING: 5 (DRY)");
        nothing("pressure", z, 5, z::pressure, 2);
        nothing("pressure", z, 1, z::pressure, 3);
        Check.under("11, 12 the greatest and the least that can be");
        // All 8 hang in a row by RESIST 20 and draw 60: LOSSES 20 times 3,600 times (64, 49 .. 1).
        RingWaters low = Tape.told("well w 0;joint a 60 at 300;joint b 60 at 300;joint c 60 at 300;joint d 60 at 300;"
                + "joint e 60 at 300;joint f 60 at 300;joint g 60 at 300;joint h 60 at 300;pipe w a 20;pipe a b 20;"
                + "pipe b c 20;pipe c d 20;pipe d e 20;pipe e f 20;pipe f g 20;pipe g h 20");
        Check.answers("HEAD", low, low.head(8), -72000L * 204);
        Check.answers("PRESSURE", low, low.pressure(8), -72000L * 204 - 30000);
        RingWaters high = Tape.told("well w 999;joint a 0 at 0;joint b 0 at 0;joint c 0 at 0;joint d 0 at 0;"
                + "joint e 0 at 0;joint f 0 at 0;joint g 0 at 0;joint h 9 at 0;pump w a 300;pump a b 300;"
                + "pump b c 300;pump c d 300;pump d e 300;pump e f 300;pump f g 300;pump g h 300");
        Check.answers("HEAD", high, high.head(8), 99900 + 8 * 30000);
        high.draw(8, 10);
        Check.answers("HEAD beyond their numbers", high, high.head(8), 99900);
    }

    private static void weakest() {
        Check.under("13 the JOINT with the least PRESSURE, the first such");
        RingWaters x = Tape.told("well w 9;joint a 0 at 3;joint b 0 at 4;joint c 0 at 4;pipe w a 1;pipe w b 1;pipe w c 1");
        Check.answers("b, as c", x, x.weakest(), 2);
        x.draw(3, 1);
        Check.answers("c by 1", x, x.weakest(), 3);
        x.draw(1, 10);
        Check.answers("a by as much as c: 600 less 100, 500 less 1", x, x.weakest(), 3);
        x.draw(1, 11);
        Check.answers("a: 600 less 121", x, x.weakest(), 1);
        Check.under("13 (never the well)");
        x = Tape.told(TINY);
        Check.answers("PRESSURE above 0", x, x.weakest(), 1);
        x = Tape.told("well w 9;joint a 0 at 9;pipe w a 1");
        Check.answers("PRESSURE 0, as the well's", x, x.weakest(), 1);
        Check.under("13 that isn't DRY; -2: all are DRY");
        x = Tape.told(DRY);
        Check.answers("the other", x, x.weakest(), 1);
        x.valve(0, true);
        Check.answers("all are DRY", x, x.weakest(), -2);
        x = Tape.told(STAR);
        Check.answers("the first of eight", x, x.weakest(), 1);
        for (int e = 0; e < 7; e++) {
            x.valve(e, true);
        }
        Check.answers("the last of eight", x, x.weakest(), 8);
    }

    private static void ring() {
        Check.under("14 NONE: 1: there is no RING");
        RingWaters x = Tape.told(TINY);
        none("k", x, 1, k -> x.ring(k, 0), MIN_VALUE, -1, 0, 1, MAX_VALUE);
        Check.under("14 NONE: 1: six RINGS");
        RingWaters y = Tape.told(FULL);
        none("k", y, 1, k -> y.ring(k, 0), MIN_VALUE, -1, 6, 7, 14, MAX_VALUE);
        Check.under("14 the i-th EDGE, along it (0: the one beside THE TREE); -2 beyond");
        int[] first = {8, 1, 0, -2, -2};
        int[] last = {13, 6, 5, -2, -2};
        for (int i = 0; i < 5; i++) {
            Check.answers("RING 0, " + i, y, y.ring(0, i), first[i]);
            Check.answers("RING 5, " + i, y, y.ring(5, i), last[i]);
        }
        Check.answers("RING 0, 8", y, y.ring(0, 8), -2);
        Check.answers("RING 0, 9", y, y.ring(0, 9), -2);
        Check.answers("RING 5, the greatest", y, y.ring(5, MAX_VALUE), -2);
        Check.under("14 NONE: 1 (i below 0, too)");
        none("i", y, 1, i -> y.ring(0, i), -1, -2, MIN_VALUE);
        none("i", y, 1, i -> y.ring(5, i), -1, MIN_VALUE);
        Check.under("14 13 RINGS");
        RingWaters z = Tape.told("well w 9;joint a 0 at 0" + ";pipe w a 1".repeat(14));
        Check.answers("the 13th", z, z.ring(12, 0), 13);
        Check.answers("the 13th, beyond", z, z.ring(12, 2), -2);
        Check.refused("a 14th", z, z.ring(13, 0), 1);
    }

    private static void sum() {
        Check.under("15 NOTHING: 1: there is no RING");
        RingWaters x = Tape.told(TINY);
        nothing("k", x, 1, k -> x.sum(k, 0), MIN_VALUE, -1, 0, 1, MAX_VALUE);
        Check.under("15 NOTHING: 1: six RINGS");
        RingWaters y = Tape.told(FULL);
        nothing("k", y, 1, k -> y.sum(k, 0), MIN_VALUE, -1, 6, MAX_VALUE);
        nothing("k", y, 1, k -> y.sum(k, 1), -1, 6);
        Check.under("15 SUM (what 0), STEEP (1); NOTHING: 1 (what, too)");
        nothing("what", y, 1, what -> y.sum(0, what), MIN_VALUE, -1, 2, MAX_VALUE);
        nothing("what", y, 1, what -> y.sum(5, what), -1, 2);
        Check.answers("SUM", y, y.sum(5, 0), 0);
        Check.answers("STEEP", y, y.sum(5, 1), 20 + 1 + 1);
        Check.under("15 as FLOWS are now");
        // -100 by 40: f1 2, f0 8: 19 times 4, less 64, by 19 times 5, 17: no step.
        RingWaters z = Tape.told("well w 9;joint a 10 at 0;pipe w a 1;pipe w a 19");
        Check.answers("SUM", z, z.sum(0, 0), 76 - 64);
        Check.answers("STEEP", z, z.sum(0, 1), 95 + 17);
    }

    private static void early() {
        Check.under("16 n SWEEPS (0 .. 60); NOTHING: 2");
        RingWaters x = Tape.told("well w 0;joint a 1 at 1;pump w a 3;pump w a 6");
        nothing("n", x, 2, n -> x.early(0, n), MIN_VALUE, -1, 61, 62, MAX_VALUE);
        nothing("n", x, 2, n -> x.early(1, n), -1, 61);
        // f1 0 and 150 by turns: see TermsNetTest.
        Check.answers("0", x, x.early(1, 0), 0);
        Check.answers("1", x, x.early(1, 1), 150);
        Check.answers("59", x, x.early(1, 59), 150);
        Check.answers("60", x, x.early(1, 60), 0);
        Check.under("16 NOTHING: 1");
        nothing("e", x, 1, e -> x.early(e, 0), MIN_VALUE, -1, 2, 3, 14, MAX_VALUE);
        nothing("e", x, 1, e -> x.early(e, 60), -1, 2);
        Check.answers("the last", x, x.early(1, 3), 150);
        RingWaters y = Tape.told(FULL);
        Check.answers("the 14th", y, y.early(13, 60), 0);
        Check.nothing("a 15th", y, y.early(14, 0), 1);
        Check.under("16 (all of them, if there were fewer)");
        RingWaters z = Tape.told("well w 9;joint a 4 at 0;pipe w a 1;pipe w a 1");
        long[] due = {0, 2, 2, 2};
        for (int n = 0; n < due.length; n++) {
            Check.answers("behind " + n, z, z.early(1, n), due[n]);
        }
        Check.answers("behind 60", z, z.early(1, 60), 2);
        Check.under("16 of the first ROUND");
        RingWaters s = Tape.told(DRY);
        Check.answers("the check, 0", s, s.early(1, 0), -3);
        Check.answers("the check, 60", s, s.early(1, 60), -3);
        Check.answers("the pipe, 60", s, s.early(0, 60), 8);
        s.valve(1, true);
        Check.answers("CLOSED", s, s.early(1, 60), 0);
        Check.answers("the pipe then", s, s.early(0, 0), 5);
    }

    private static void work() {
        Check.under("17 all open pumps: none, FLOW 0, beyond its numbers");
        Check.answers("no pump", Tape.told(TINY), Tape.told(TINY).work(), 0);
        RingWaters x = Tape.told("well w 9;joint a 0 at 0;pump w a 300");
        Check.answers("FLOW 0", x, x.work(), 0);
        x.draw(1, 9);
        Check.answers("FLOW 9", x, x.work(), 9 * 30000);
        x.draw(1, 10);
        Check.answers("FLOW 10", x, x.work(), 0);
        Check.under("17 FLOWS times LIFTS by these, together; SHUT, CLOSED ones aside");
        x = Tape.told("well w 9;joint a 1 at 0;joint b 11 at 0;joint c 1 at 0;pump w a 6,5;pump a b 4,3;pump c w 9");
        Check.answers("12 by the second, 11 by the second", x, x.work(), 12 * 500 + 11 * 300);
        x.valve(1, true);
        Check.answers("1 by the first", x, x.work(), 600);
        x.valve(0, true);
        Check.answers("none is open", x, x.work(), 0);
    }

    private static void gap() {
        Check.under("18 n SWEEPS (0 .. 60); NOTHING: 2");
        RingWaters x = Tape.told("well w 0;joint a 1 at 1;pump w a 3;pump w a 6");
        nothing("n", x, 2, x::gap, MIN_VALUE, -1, 61, 62, MAX_VALUE);
        Check.answers("0: -600 and 300", x, x.gap(0), 300);
        Check.answers("1: 0 and 300", x, x.gap(1), 300);
        Check.answers("60", x, x.gap(60), 300);
        Check.under("18 The greatest SUM, without sign, of all RINGS");
        // At BEGIN f0 4: by EDGE 1 -16, by EDGE 2 (a -> w) 16 and 0. Then f1 2, f0 2: 0; f2: 4 by 1 and 5: 0.67: f2 -1, f0 1.
        RingWaters y = Tape.told("well w 9;joint a 4 at 0;pipe w a 1;pipe w a 1;pipe a w 1");
        Check.answers("at BEGIN", y, y.gap(0), 16);
        Check.answers("behind 1: 4 less 1, and -1 and 1", y, y.gap(1), 3);
        // The second RING has the greater one: a draws 2 by EDGE 0, b 5 by EDGE 1.
        y = Tape.told("well w 9;joint a 2 at 0;joint b 5 at 0;pipe w a 1;pipe w b 1;pipe w a 1;pipe w b 1");
        Check.answers("25, not 4", y, y.gap(0), 25);
        y = Tape.told("well w 9;joint a 5 at 0;joint b 2 at 0;pipe w a 1;pipe w b 1;pipe w a 1;pipe w b 1");
        Check.answers("25, though 4 comes behind", y, y.gap(0), 25);
        Check.under("18 (all of them, if there were fewer)");
        RingWaters z = Tape.told("well w 9;joint a 10 at 0;pipe w a 1;pipe w a 19");
        Check.answers("at BEGIN", z, z.gap(0), 100);
        Check.answers("behind 1", z, z.gap(1), 12);
        Check.answers("behind 2", z, z.gap(2), 12);
        Check.answers("behind 60", z, z.gap(60), 12);
        Check.under("18 0 without RINGS");
        Check.answers("none", Tape.told(TINY), Tape.told(TINY).gap(60), 0);
        z.valve(1, true);
        Check.answers("none any more", z, z.gap(0), 0);
        Check.under("18 of the first ROUND: RINGS that are no more, too");
        // f0 -5: 25 by 4 and 11: 1.67: f1 2, f0 -3; 16 less 9 by 20 and 7: no step. Then the check is SHUT.
        RingWaters s = Tape.told("well w 10;joint a 5 at 0;check a w 1;pipe w a 4");
        Check.answers("no RING now", s, s.about(2), 0);
        Check.answers("at BEGIN", s, s.gap(0), 25);
        Check.answers("behind 60", s, s.gap(60), 7);
    }

    private static void balance() {
        Check.under("19 NOTHING: 1 (the well, too)");
        RingWaters x = Tape.told(TINY);
        nothing("balance", x, 1, x::balance, MIN_VALUE, -1, 0, 2, 3, 9, MAX_VALUE);
        Check.answers("a", x, x.balance(1), 0);
        RingWaters y = Tape.told(FULL);
        nothing("balance", y, 1, y::balance, -1, 0, 9, 10);
        y.draw(8, 60);
        Check.answers("the ninth", y, y.balance(8), 0);
        Check.under("19 What comes to a JOINT, less what goes from it: from and to it, by either end");
        RingWaters row = Tape.told("well w 9;joint a 1 at 0;joint b 2 at 0;joint c 4 at 0;pipe w a 1;pipe b a 1;pipe b c 1");
        for (int j = 1; j <= 3; j++) {
            Check.answers("in a row", row, row.balance(j), 0);
        }
        Check.under("19 less what it draws (nothing, if it is DRY)");
        RingWaters z = Tape.told(DRY);
        Check.answers("DRY", z, z.balance(2), 0);
        Check.answers("the other", z, z.balance(1), 0);
    }

    private static void lossAt() {
        Check.under("20 a FLOW f (-10,000 .. 10,000); NOTHING: 2");
        RingWaters x = Tape.told("well w 9;joint a 0 at 0;pipe w a 20;pump w a 6");
        nothing("f", x, 2, f -> x.lossAt(0, f, 0), MIN_VALUE, -10001, 10001, MAX_VALUE);
        nothing("f", x, 2, f -> x.lossAt(1, f, 1), MIN_VALUE, -10001, 10001, MAX_VALUE);
        Check.answers("10,000", x, x.lossAt(0, 10000, 0), 2000000000L);
        Check.answers("-10,000", x, x.lossAt(0, -10000, 0), -2000000000L);
        Check.answers("10,000, STEEP", x, x.lossAt(0, 10000, 1), 400020);
        Check.answers("-10,000, STEEP", x, x.lossAt(0, -10000, 1), 400020);
        Check.answers("a pump, 10,000", x, x.lossAt(1, 10000, 0), 0);
        Check.answers("a pump, -10,000", x, x.lossAt(1, -10000, 0), -600);
        Check.answers("a pump, STEEP", x, x.lossAt(1, -10000, 1), 1);
        Check.under("20 NOTHING: 1 (what, too)");
        nothing("e", x, 1, e -> x.lossAt(e, 0, 0), MIN_VALUE, -1, 2, 14, MAX_VALUE);
        nothing("what", x, 1, what -> x.lossAt(0, 0, what), MIN_VALUE, -1, 2, MAX_VALUE);
        nothing("what", x, 1, what -> x.lossAt(1, 0, what), -1, 2);
        RingWaters y = Tape.told(FULL);
        Check.answers("the 14th", y, y.lossAt(13, 1, 0), 20);
        Check.nothing("a 15th", y, y.lossAt(14, 1, 0), 1);
        Check.under("20 by RESIST as it is now");
        y.resist(13, 7);
        Check.answers("7", y, y.lossAt(13, -2, 0), -28);
        Check.answers("7, STEEP", y, y.lossAt(13, -2, 1), 35);
        y.undo();
        Check.answers("20 again", y, y.lossAt(13, -2, 0), -80);
    }

    private static void behind() {
        Check.under("21 NONE: 1");
        RingWaters x = Tape.told(TINY);
        none("behind", x, 1, x::behind, MIN_VALUE, -1, 2, 9, MAX_VALUE);
        Check.under("21 How many JOINTS hang behind one (itself not)");
        Check.answers("the well", x, x.behind(0), 1);
        Check.answers("a", x, x.behind(1), 0);
        RingWaters y = Tape.told(FULL);
        Check.answers("all eight", y, y.behind(0), 8);
        Check.answers("the ninth", y, y.behind(8), 0);
        Check.refused("a tenth", y, y.behind(9), 1);
        // Closed: all pipes from the well but the first; a b c d e f g in a row, h is DRY.
        for (int e = 1; e <= 7; e++) {
            y.valve(e, true);
        }
        Check.answers("behind the well, not the DRY", y, y.behind(0), 7);
        Check.answers("behind a", y, y.behind(1), 6);
        Check.answers("behind g", y, y.behind(7), 0);
        Check.under("21 (0 behind a DRY one)");
        Check.answers("h", y, y.behind(8), 0);
        y.valve(0, true);
        Check.answers("a, DRY as b is that hung there", y, y.behind(1), 0);
        Check.answers("the well, all are DRY", y, y.behind(0), 0);
    }

    // ---- on paper

    private static void scaled() {
        Check.under("22 n (0 .. 300); NOTHING: 2");
        RingWaters x = Tape.told("well w 99;joint a 60 at 0;pipe w a 1");
        nothing("n", x, 2, x::scaled, MIN_VALUE, -1, 301, 302, MAX_VALUE);
        Check.answers("0", x, x.scaled(0), 9900);
        Check.answers("100", x, x.scaled(100), 9900 - 3600);
        Check.answers("300", x, x.scaled(300), 9900 - 180 * 180);
        Check.under("22 each downwards");
        Check.answers("1: 0.6", x, x.scaled(1), 9900);
        Check.answers("2: 1.2", x, x.scaled(2), 9899);
        Check.answers("3: 1.8", x, x.scaled(3), 9899);
        Check.answers("4: 2.4", x, x.scaled(4), 9896);
        Check.answers("99: 59.4", x, x.scaled(99), 9900 - 59 * 59);
        Check.answers("299: 179.4", x, x.scaled(299), 9900 - 179 * 179);
        x = Tape.told("well w 9;joint a 1 at 0;joint b 1 at 0;pipe w a 1;pipe a b 1");
        Check.answers("199: each of both is 1, not both together 3", x, x.scaled(199), 900 - 4 - 1);
        Check.answers("200", x, x.scaled(200), 900 - 16 - 4);
        Check.under("22 The least PRESSURE (not the well's)");
        Check.answers("above 0", x, x.scaled(0), 900);
        x = Tape.told("well w 9;joint a 0 at 10;joint b 1 at 0;pipe w a 1;pipe w b 1");
        Check.answers("below 0", x, x.scaled(100), -100);
        Check.under("22 of what they are: behind acts");
        x.draw(2, 40);
        Check.answers("40", x, x.scaled(100), 900 - 1600);
        Check.under("22 5 (a JOINT would be DRY)");
        x = Tape.told(DRY);
        // b draws 0 by 0 .. 33: nothing goes through the check. a draws 5, 1.65: 1.
        Check.answers("33", x, x.scaled(33), 1000 - 2);
        Check.nothing("34", x, x.scaled(34), 5);
        Check.nothing("300", x, x.scaled(300), 5);
        x = Tape.told(TINY);
        x.valve(0, true);
        Check.nothing("all are DRY", x, x.scaled(0), 5);
    }

    private static void most() {
        Check.under("23 p (-30,000 .. 90,000); NONE: 2");
        RingWaters x = Tape.told("well w 900;joint a 0 at 0;pipe w a 1");
        none("p", x, 2, x::most, MIN_VALUE, -30001, 90001, MAX_VALUE);
        Check.answers("90,000, as it is", x, x.most(90000), 300);
        x.well(899);
        Check.answers("90,000, more than it is", x, x.most(90000), -2);
        x = Tape.told("well w 0;joint a 0 at 300;pipe w a 1");
        Check.answers("-30,000, as it is", x, x.most(-30000), 300);
        Check.answers("-29,999, more than it is", x, x.most(-29999), -2);
        x = Tape.told("well w 0;joint a 1 at 300;pipe w a 1");
        Check.answers("-30,000, less from 100 on", x, x.most(-30000), 99);
        Check.under("23 The greatest n: p or more");
        x = Tape.told("well w 99;joint a 60 at 0;pipe w a 1");
        Check.answers("0 alone is drawn by 0 and 1", x, x.most(9900), 1);
        Check.answers("1 is drawn by 2 and 3", x, x.most(9899), 3);
        Check.answers("1 too many", x, x.most(9898), 3);
        Check.answers("179 by 299", x, x.most(9900 - 179 * 179), 299);
        Check.answers("180 by 300", x, x.most(9900 - 180 * 180), 300);
        Check.answers("not 180", x, x.most(9900 - 180 * 180 + 1), 299);
        Check.under("23 by which none were DRY; -2: by none");
        x = Tape.told(DRY);
        Check.answers("33", x, x.most(-30000), 33);
        Check.answers("1,000 by 0 for a, up to 19", x, x.most(1000), 19);
        Check.answers("by none", x, x.most(1001), -2);
        x.valve(0, true);
        Check.answers("all DRY", x, x.most(-30000), -2);
        Check.under("23 the least of all JOINTS");
        x = Tape.told("well w 9;joint a 1 at 0;joint b 1 at 8;pipe w a 1;pipe w b 1");
        Check.answers("99 of b", x, x.most(99), 199);
        Check.answers("100 of b", x, x.most(100), 99);
        Check.answers("101 of b", x, x.most(101), -2);
    }

    private static void pairs() {
        Check.under("24 pairs of EDGES that, were both CLOSED, too, made a JOINT DRY");
        Check.answers("one EDGE", Tape.told(TINY), Tape.told(TINY).pairs(), 0);
        RingWaters x = Tape.told("well w 9;joint a 0 at 0;pipe w a 1;pipe w a 1");
        Check.answers("two", x, x.pairs(), 1);
        x = Tape.told("well w 9;joint a 0 at 0;pipe w a 1;pipe w a 1;pipe w a 1");
        Check.answers("three", x, x.pairs(), 0);
        Check.under("24 none of them CLOSED");
        x.valve(1, true);
        Check.answers("two left", x, x.pairs(), 1);
        x.valve(0, true);
        Check.answers("one left", x, x.pairs(), 0);
        Check.under("24 none of them told by vital()");
        x = Tape.told("well w 9;joint a 0 at 0;joint b 0 at 0;pipe w a 1;pipe a b 1");
        Check.answers("both are", x, x.pairs(), 0);
        x = Tape.told("well w 9;joint a 0 at 0;joint b 0 at 0;pipe w a 1;pipe w a 1;pipe a b 1");
        Check.answers("the third is", x, x.pairs(), 1);
        Check.under("24 a JOINT DRY that isn't");
        x = Tape.told("well w 9;joint a 0 at 0;joint b 0 at 0;pipe w a 1;pipe w a 1;pipe a b 1;pipe a b 1;pipe a b 1");
        x.valve(2, true);
        Check.answers("both to a, both to b", x, x.pairs(), 2);
        x.valve(3, true);
        Check.answers("both to a; b's one is vital", x, x.pairs(), 1);
        x.valve(4, true);
        Check.answers("both to a; b is DRY", x, x.pairs(), 1);
        x.valve(0, true);
        x.valve(1, true);
        Check.answers("all are DRY", x, x.pairs(), 0);
        Check.under("24 as many as can be");
        // Any two EDGES of a ring cut something off.
        x = Tape.told("well w 9;joint a 0 at 0;joint b 0 at 0;joint c 0 at 0;pipe w a 1;pipe a b 1;pipe b c 1;pipe c w 1");
        Check.answers("6 of 4", x, x.pairs(), 6);
        x = Tape.told("well w 9;joint a 0 at 0;joint b 0 at 0;joint c 0 at 0;joint d 0 at 0;joint e 0 at 0;joint f 0 at 0;"
                + "joint g 0 at 0;joint h 0 at 0;pipe w a 1;pipe a b 1;pipe b c 1;pipe c d 1;pipe d e 1;pipe e f 1;"
                + "pipe f g 1;pipe g h 1;pipe h w 1");
        Check.answers("36 of 9", x, x.pairs(), 36);
        x = Tape.told(STAR.replace(";pipe w h 1", ";pipe w h 1;pipe w a 1;pipe w b 1;pipe w c 1;pipe w d 1;pipe w e 1;pipe w f 1"));
        Check.answers("the last of 14, too: 6 pairs", x, x.pairs(), 6);
    }

    private static void fire() {
        Check.under("25 NONE: 1 (the well, too)");
        RingWaters x = Tape.told(TINY);
        none("j", x, 1, j -> x.fire(j, 0), MIN_VALUE, -1, 0, 2, 9, MAX_VALUE);
        RingWaters y = Tape.told(FULL);
        none("j", y, 1, j -> y.fire(j, 0), -1, 0, 9, 10);
        Check.answers("the ninth", y, y.fire(8, 900), 0);
        Check.under("25 p (-30,000 .. 90,000); NONE: 2");
        none("p", x, 2, p -> x.fire(1, p), MIN_VALUE, -30001, 90001, MAX_VALUE);
        RingWaters z = Tape.told("well w 900;joint a 0 at 0;pipe w a 1");
        Check.answers("90,000, as it is", z, z.fire(1, 90000), 0);
        z.well(899);
        Check.answers("90,000, more than it is", z, z.fire(1, 90000), -2);
        z = Tape.told("well w 0;joint a 0 at 300;pipe w a 1");
        Check.answers("-30,000, as it is", z, z.fire(1, -30000), 0);
        Check.answers("-29,999", z, z.fire(1, -29999), -2);
        z.draw(1, 1);
        Check.answers("-30,000, less than it is", z, z.fire(1, -30000), -2);
        Check.under("25 The greatest n (0 .. 60): p or more");
        // PRESSURE by n more: 900 less (n + 1) times (n + 1).
        Check.answers("0", x, x.fire(1, 899), 0);
        Check.answers("-2: not by 0 either", x, x.fire(1, 900), -2);
        Check.answers("1", x, x.fire(1, 896), 1);
        Check.answers("1, 4 not enough for 2", x, x.fire(1, 892), 1);
        Check.answers("2", x, x.fire(1, 891), 2);
        Check.answers("59", x, x.fire(1, 900 - 3600), 59);
        Check.answers("59, 1 not enough for 60", x, x.fire(1, 900 - 3720), 59);
        Check.answers("60", x, x.fire(1, 900 - 3721), 60);
        Check.answers("60, not 61", x, x.fire(1, 900 - 3844), 60);
        Check.answers("60 by the least p", x, x.fire(1, -30000), 60);
        Check.under("25 n more than what it draws, though that be 60");
        z = Tape.told("well w 0;joint a 60 at 0;pipe w a 1");
        Check.answers("120 times 120", z, z.fire(1, -14400), 60);
        Check.answers("119 times 119", z, z.fire(1, -14161), 59);
        Check.under("25 none were DRY");
        z = Tape.told(DRY);
        Check.answers("b is", z, z.fire(1, -30000), -2);
        Check.answers("b is, at b", z, z.fire(2, -30000), -2);
        z = Tape.told("well w 9;joint a 1 at 0;joint b 0 at 0;pipe w a 1;check b a 1");
        Check.answers("by 1 more b were: 0", z, z.fire(2, -30000), 0);
        Check.answers("more at a is no harm to b", z, z.fire(1, -30000), 60);
        Check.under("25 each PRESSURE (not the well's)");
        z = Tape.told("well w 9;joint a 0 at 0;joint b 0 at 8;pipe w a 1;pipe w b 1");
        Check.answers("b has 100: at a", z, z.fire(1, 100), 28);
        Check.answers("b has 100: not 101", z, z.fire(1, 101), -2);
        Check.answers("100 at b", z, z.fire(2, 100), 0);
        Check.answers("all above 0, the well's aside", z, z.fire(2, 1), 9);
    }

    /** Also where it isn't so by 0: the greatest n is told. */
    private static void fireByMoreButNotByNone() {
        Check.under("25 The greatest n, also where it is not by 0");
        // w meets a by EDGE 0, c by 2; a meets b by b -> a. b draws nothing: nothing goes through b -> a, HEAD of b is
        // that of a, 100 less 7; PRESSURE -7.
        // b draws 1: BEGIN 2, -1, 0, 0; RING c -> b -> a -> w -> c: -20, -28 by 1, 60, 35, 1: -0.49, no step. b -> a is
        // SHUT; HEADS 93, 99, 98: b -> a is opened, again and again; SHUT in the 20th ROUND: PRESSURE of b -2.
        // b draws 2: -80, -63 by 1, 100, 49, 1: -0.95: 2, -1, 1, 1; -20, -28, 1, 1 by 60, 35, 3, 3: no step. SHUT; b has
        // 100 less 8, not more than a: PRESSURE -8.
        // b draws d, 3 or more. If b -> a is SHUT, b has 100 less 2 d d, at most 82. If it isn't, EDGE 0 has 1 or more,
        // so a and b have at most 93: by 0 or less in it, 1 or more in b -> a, SUM were 2 (d + 1) (d + 1) and 20 at
        // least, more than half of STEEP, so no RING would stay there.
        RingWaters x = Tape.told("well w 1;joint a 1 at 0;joint c 0 at 0;joint b 0 at 1;pipe w a 7;check b a 20;pipe w c 1;pipe c b 1");
        Check.answers("PRESSURE now", x, x.pressure(3), -7);
        Check.answers("-2 by 1 more", x, x.fire(3, -2), 1);
        Check.answers("-7 by 1 more", x, x.fire(3, -7), 1);
        Check.answers("-1 by none", x, x.fire(3, -1), -2);
        Check.answers("-8 by 2 more", x, x.fire(3, -8), 2);
        x.draw(3, 1);
        Check.answers("b draws 1", x, x.pressure(3), -2);
        Check.under("23 The greatest n, also where it is not by 0");
        // By 0 .. 99 a draws nothing, too: all have 100, PRESSURE of b is 0. By 100 .. 199 a and b draw 1: -2.
        // By 200 .. 299 they draw 2: 4, -2, 0, 0; -192 by 165: 3, -1, 1, 1; -81 by 115: 2, 0, 2, 2; -20 by 65. b has HEAD
        // of a, 100 less 28. By 300 they draw 3: 6, -3, 0, 0; -432 by 233: 4, -1, 2, 2; -124 by 133: 3, 0, 3, 3;
        // -45 by 83: 2, 1, 4, 4; 24 by 113. b has 20 more than a, 92.
        Check.answers("0 by 99", x, x.most(0), 99);
        Check.answers("-2 by 199", x, x.most(-2), 199);
        Check.answers("-8 by 300, though not by 200", x, x.most(-8), 300);
        Check.answers("-7 by 199", x, x.most(-7), 199);
        Check.answers("by 200", x, x.scaled(200), -28);
        Check.answers("by 300", x, x.scaled(300), -8);
        Check.answers("by 100", x, x.scaled(100), -2);
    }

    private static void cut() {
        Check.under("26 NONE: 1");
        RingWaters x = Tape.told(TINY);
        none("cut", x, 1, x::cut, MIN_VALUE, -1, 1, 14, MAX_VALUE);
        Check.answers("the only one", x, x.cut(0), 2);
        RingWaters y = Tape.told(FULL);
        none("cut", y, 1, y::cut, -1, 14, 15);
        Check.under("26 JOINTS (bits) that were DRY: none, the last");
        Check.answers("none", y, y.cut(13), 0);
        Check.answers("the ninth", y, y.cut(7), 256);
        Check.under("26 CLOSED, too: those that are DRY already, too");
        y.valve(7, true);
        Check.answers("another", y, y.cut(13), 256);
        Check.answers("the CLOSED one", y, y.cut(7), 256);
        Check.under("26 all");
        x = Tape.told("well w 9;joint a 0 at 0;joint b 0 at 0;pipe w a 1;pipe a b 1");
        Check.answers("both", x, x.cut(0), 6);
        Check.answers("b", x, x.cut(1), 4);
        Check.under("26 what would be SHUT then, too");
        // b draws 1 by its pipe. Without it: b -> a has -1, is SHUT.
        x = Tape.told("well w 9;joint a 0 at 0;joint b 1 at 0;pipe w a 1;pipe w b 1;check b a 1");
        Check.answers("b's pipe", x, x.cut(1), 4);
        Check.answers("the check", x, x.cut(2), 0);
        Check.answers("a's pipe: by b -> a", x, x.cut(0), 0);
    }

    private static void vital() {
        Check.under("27 EDGES (bits) of which each alone made a JOINT DRY that isn't");
        Check.answers("the only one", Tape.told(TINY), Tape.told(TINY).vital(), 1);
        RingWaters x = Tape.told(STAR);
        Check.answers("all 8", x, x.vital(), 255);
        x = Tape.told("well w 9;joint a 0 at 0;pipe w a 1;pipe w a 1");
        Check.answers("none", x, x.vital(), 0);
        Check.under("27 CLOSED ones aren't: they make none DRY that isn't");
        x.valve(0, true);
        Check.answers("the other", x, x.vital(), 2);
        x.valve(1, true);
        Check.answers("all are DRY", x, x.vital(), 0);
        Check.under("27 the 14th");
        x = Tape.told("well w 9;joint a 0 at 0;joint b 0 at 0" + ";pipe w a 1".repeat(13) + ";pipe b a 1");
        Check.answers("alone", x, x.vital(), 1 << 13);
        Check.under("27 that isn't DRY: SHUT ones");
        x = Tape.told(DRY);
        Check.answers("b is DRY: its check is not", x, x.vital(), 1);
        Check.under("27 an EDGE without which another is SHUT");
        x = Tape.told("well w 9;joint a 0 at 0;joint b 1 at 0;pipe w a 1;pipe w b 1;check b a 1");
        Check.answers("b's pipe", x, x.vital(), 2);
    }

    private static void widening(String what, RingWaters x, int e, long least) {
        Check.answers(what + ", widen", x, x.widen(), e);
        if (e == -2) {
            Check.nothing(what + ", widened", x, x.widened(), 5);
        } else {
            Check.answers(what + ", widened", x, x.widened(), least);
        }
    }

    private static void widenAndWidened() {
        Check.under("28, 29 The pipe or check with RESIST above 1");
        RingWaters x = Tape.told("well w 9;joint a 3 at 0;pipe w a 1");
        widening("RESIST 1", x, -2, 0);
        x.resist(0, 2);
        widening("RESIST 2", x, 0, 900 - 9);
        x.resist(0, 20);
        widening("RESIST 20", x, 0, 900 - 19 * 9);
        x = Tape.told("well w 9;joint a 3 at 0;check w a 2");
        widening("a check", x, 0, 900 - 9);
        widening("a pump is none", Tape.told("well w 9;joint a 3 at 0;pump w a 20"), -2, 0);
        Check.under("28, 29 that isn't CLOSED");
        x = Tape.told("well w 9;joint a 0 at 0;joint b 0 at 1;pipe w a 2;pipe w b 2");
        widening("both alike: the first such", x, 0, 800);
        x.valve(0, true);
        widening("the other", x, 1, 800);
        x.valve(1, true);
        widening("none", x, -2, 0);
        Check.under("28, 29 were greatest, the first such");
        x = Tape.told("well w 9;joint a 3 at 0;joint b 4 at 0;pipe w a 3;pipe w b 3");
        widening("b's: 16 less than 48, more than a's 27", x, 1, 900 - 16 * 2);
        x.draw(2, 3);
        widening("as much by either: the least is the other's", x, 0, 900 - 27);
        Check.under("28, 29 also if it helps nothing: the least PRESSURE is greatest so");
        x = Tape.told("well w 9;joint a 0 at 0;pipe w a 2");
        widening("nothing flows", x, 0, 900);
        Check.under("28, 29 (of those that aren't DRY then, not the well's)");
        x = Tape.told(DRY);
        widening("b aside", x, 0, 10000 - 25 - 1000);
        x.resist(0, 1);
        widening("the SHUT check alone is left", x, 1, 10000 - 25 - 1000);
        x = Tape.told("well w 9;joint a 3 at 9;pipe w a 2");
        widening("below 0", x, 0, -9);
        Check.under("28, 29 (an EDGE by which all are DRY then is none)");
        x = Tape.told("well w 9;joint a 3 at 0;joint b 0 at 0;pipe w a 1;pipe a b 2");
        widening("b's", x, 1, 900 - 9);
        x.valve(0, true);
        widening("all are DRY", x, -2, 0);
    }

    // ---- leaks

    private static void measure() {
        Check.under("30 NONE: 1 (the well, too)");
        RingWaters x = Tape.told(TINY);
        none("j", x, 1, j -> x.measure(j, 0), MIN_VALUE, -1, 0, 2, 9, MAX_VALUE);
        Check.answers("none by these", x, x.about(10), 0);
        Check.under("30 hundredths, -900,000 .. 900,000; NONE: 2");
        none("head", x, 2, head -> x.measure(1, head), MIN_VALUE, -900001, 900001, MAX_VALUE);
        Check.answers("none by these", x, x.about(10), 0);
        Check.answers("900,000", x, x.measure(1, 900000), 1);
        Check.answers("it is that far", x, x.off(1, 0), 900000 - 899);
        Check.answers("-900,000", x, x.measure(1, -900000), 1);
        Check.under("30 (the latest of one JOINT counts)");
        Check.answers("it is that far", x, x.off(1, 0), 900000 + 899);
        x.measure(1, 900001);
        x.measure(1, -900001);
        Check.answers("refused ones don't count", x, x.off(1, 0), 900000 + 899);
        x.measure(1, 0);
        Check.answers("0 is a HEAD", x, x.off(1, 0), 899);
        Check.under("30 how many JOINTS have one: all eight");
        RingWaters y = Tape.told(FULL);
        for (int j = 8; j >= 1; j--) {
            Check.answers("measured", y, y.measure(j, 900 + j), 9 - j);
        }
        Check.answers("one again", y, y.measure(8, 908), 8);
        Check.answers("1 and 2 .. and 8", y, y.off(1, 0), 36);
        none("j", y, 1, j -> y.measure(j, 0), 0, 9);
        Check.under("30 a DRY one, too");
        RingWaters z = Tape.told(DRY);
        Check.answers("b", z, z.measure(2, 0), 1);
    }

    private static void forget() {
        Check.under("31 All that was measured is forgotten: how many there were");
        RingWaters x = Tape.told(FULL);
        Check.answers("none", x, x.forget(), 0);
        for (int j = 1; j <= 8; j++) {
            x.measure(j, 0);
        }
        Check.answers("all eight", x, x.forget(), 8);
        Check.answers("none left", x, x.about(10), 0);
        Check.answers("none", x, x.forget(), 0);
        x.measure(3, 890);
        Check.answers("that one alone", x, x.off(1, 0), 10);
        Check.answers("one", x, x.forget(), 1);
    }

    private static void off() {
        Check.under("32 NOTHING: 1 (the well, too)");
        RingWaters x = Tape.told(TINY);
        x.measure(1, 900);
        nothing("j", x, 1, j -> x.off(j, 0), MIN_VALUE, -1, 0, 2, 9, MAX_VALUE);
        Check.under("32 n (0 .. 40); NOTHING: 2");
        nothing("n", x, 2, n -> x.off(1, n), MIN_VALUE, -1, 41, 42, MAX_VALUE);
        Check.answers("0", x, x.off(1, 0), 1);
        Check.answers("1", x, x.off(1, 1), 4);
        Check.answers("40", x, x.off(1, 40), 41 * 41);
        Check.under("32 n more than what it draws, though that be 60");
        x.draw(1, 60);
        Check.answers("100", x, x.off(1, 40), 10000);
        Check.under("32 without signs, together");
        RingWaters y = Tape.told("well w 9;joint a 2 at 0;joint b 0 at 0;pipe w a 1;pipe w b 1");
        y.measure(1, 900);
        y.measure(2, 890);
        Check.answers("4 below, 10 above", y, y.off(1, 0), 14);
        Check.answers("4 below, 6 above", y, y.off(2, 2), 10);
        Check.answers("4 below, 6 below", y, y.off(2, 4), 10);
        Check.under("32 (1,000,000 for one that is DRY then)");
        y.valve(1, true);
        Check.answers("b", y, y.off(1, 0), 1000004);
        y.valve(0, true);
        Check.answers("both", y, y.off(1, 40), 2000000);
        RingWaters z = Tape.told("well w 9;joint a 0 at 0;joint b 0 at 0;pipe w a 1;check b a 1");
        z.measure(2, 900);
        Check.answers("not DRY by 0 more", z, z.off(2, 0), 0);
        Check.answers("DRY by 1 more", z, z.off(2, 1), 1000000);
        Check.under("32 5 (none is measured)");
        z.forget();
        Check.nothing("none", z, z.off(2, 0), 5);
        Check.under("32 the ninth JOINT");
        RingWaters full = Tape.told(FULL);
        full.measure(8, 900);
        Check.answers("40 by 40", full, full.off(8, 40), 1600);
        Check.nothing("a tenth", full, full.off(9, 40), 1);
    }

    private static void leaking(String what, RingWaters x, long j, long n, long far) {
        Check.answers(what + ", where", x, x.leak(0), j);
        Check.answers(what + ", how much", x, x.leak(1), n);
        Check.answers(what + ", how far", x, x.leak(2), far);
    }

    private static void leak() {
        Check.under("33 NOTHING: 1 (what, too)");
        RingWaters x = Tape.told("well w 9;joint a 0 at 0;pipe w a 1");
        nothing("what", x, 1, x::leak, MIN_VALUE, -1, 3, 4, MAX_VALUE);
        Check.under("33 5 (none is measured)");
        nothing("what", x, 5, x::leak, 0, 1, 2);
        Check.under("33 how much (1 .. 40): not 0, not 41");
        x.measure(1, 900);
        nothing("what", x, 1, x::leak, -1, 3);
        leaking("0 were nearer", x, 1, 1, 1);
        x.measure(1, 900 - 1600);
        leaking("40", x, 1, 40, 0);
        x.measure(1, 900 - 1681);
        leaking("41 were nearer", x, 1, 40, 81);
        x.measure(1, 900000);
        leaking("far above", x, 1, 1, 900000 - 899);
        x.measure(1, -900000);
        leaking("far below", x, 1, 40, 900000 - 700);
        Check.under("33 of like ones the first JOINT, then the least");
        // 2 less by 1 more, 8 less by 2 more: 5 is as far from both.
        x = Tape.told("well w 9;joint a 0 at 0;joint b 0 at 0;pipe w a 2;pipe w b 2");
        x.measure(1, 895);
        leaking("1 or 2 at a", x, 1, 1, 3);
        x.measure(2, 895);
        leaking("1 or 2 at a or b", x, 1, 1, 8);
        x.measure(2, 892);
        leaking("2 at b", x, 2, 2, 5);
        x.measure(1, 892);
        leaking("2 at a as at b", x, 1, 2, 8);
        Check.under("33 the last JOINT");
        x = Tape.told(FULL);
        x.measure(8, 900 - 9);
        leaking("at h", x, 8, 3, 0);
        Check.under("33 all DRY: all alike");
        x = Tape.told(TINY);
        x.measure(1, 0);
        x.valve(0, true);
        leaking("a, 1", x, 1, 1, 1000000);
    }

    // ---- acts

    private static void valve() {
        Check.under("34 NONE: 1");
        RingWaters x = Tape.told(TINY);
        none("e", x, 1, e -> x.valve(e, true), MIN_VALUE, -1, 1, 14, MAX_VALUE);
        none("e", x, 1, e -> x.valve(e, false), MIN_VALUE, -1, 1, 14, MAX_VALUE);
        Check.under("34 5 (it is so)");
        Check.refused("open", x, x.valve(0, false), 5);
        Check.answers("close", x, x.valve(0, true), 1);
        Check.refused("CLOSED", x, x.valve(0, true), 5);
        Check.answers("open", x, x.valve(0, false), 0);
        Check.refused("open again", x, x.valve(0, false), 5);
        Check.under("34 5: SHUT is not CLOSED by hand");
        RingWaters y = Tape.told(DRY);
        Check.refused("SHUT, not CLOSED", y, y.valve(1, false), 5);
        Check.answers("it can be CLOSED", y, y.valve(1, true), 1);
        Check.answers("and no more", y, y.valve(1, false), 1);
        Check.answers("SHUT as before", y, y.edge(1, 5), 1);
        Check.under("34 how many are DRY then: none, all eight");
        RingWaters z = Tape.told("well w 9;joint a 0 at 0;joint b 0 at 0;joint c 0 at 0;joint d 0 at 0;joint e 0 at 0;"
                + "joint f 0 at 0;joint g 0 at 0;joint h 0 at 0;pipe w a 1;pipe a b 1;pipe a c 1;pipe a d 1;pipe a e 1;"
                + "pipe a f 1;pipe a g 1;pipe a h 1;pipe g h 1");
        Check.answers("none", z, z.valve(8, true), 0);
        Check.answers("the last", z, z.valve(7, true), 1);
        Check.answers("all", z, z.valve(0, true), 8);
        Check.answers("the last still", z, z.valve(0, false), 1);
        Check.under("34 the 14th EDGE");
        RingWaters full = Tape.told(FULL);
        Check.answers("close", full, full.valve(13, true), 0);
        Check.refused("a 15th", full, full.valve(14, true), 1);
    }

    private static void draw() {
        Check.under("35 NONE: 1 (the well, too)");
        RingWaters x = Tape.told(TINY);
        none("j", x, 1, j -> x.draw(j, 1), MIN_VALUE, -1, 0, 2, 9, MAX_VALUE);
        Check.under("35 n (0 .. 60); NONE: 2");
        none("n", x, 2, n -> x.draw(1, n), MIN_VALUE, -1, 61, 62, MAX_VALUE);
        Check.answers("as it was", x, x.joint(1, 0), 1);
        Check.under("35 draws n: what it drew");
        Check.answers("60", x, x.draw(1, 60), 1);
        Check.answers("HEAD", x, x.head(1), 900 - 3600);
        Check.answers("0", x, x.draw(1, 0), 60);
        Check.answers("HEAD", x, x.head(1), 900);
        Check.answers("0 again", x, x.draw(1, 0), 0);
        RingWaters y = Tape.told(FULL);
        Check.answers("the ninth", y, y.draw(8, 5), 0);
        Check.refused("a tenth", y, y.draw(9, 5), 1);
        RingWaters z = Tape.told(DRY);
        Check.answers("a DRY one", z, z.draw(2, 0), 3);
        Check.answers("DRY no more: nothing goes through its check", z, z.about(8), 0);
    }

    private static void well() {
        Check.under("36 n (0 .. 999, times 100); NONE: 2");
        RingWaters x = Tape.told(TINY);
        none("n", x, 2, x::well, MIN_VALUE, -1, 1000, 1001, MAX_VALUE);
        Check.answers("as it was", x, x.head(0), 900);
        Check.under("36 what it was (as told, by 100)");
        Check.answers("999", x, x.well(999), 9);
        Check.answers("HEAD", x, x.head(0), 99900);
        Check.answers("0", x, x.well(0), 999);
        Check.answers("HEAD", x, x.head(0), 0);
        Check.answers("HEAD of a", x, x.head(1), -1);
        Check.answers("1", x, x.well(1), 0);
    }

    private static void resist() {
        Check.under("37 NONE: 1");
        RingWaters x = Tape.told("well w 9;joint a 2 at 0;pipe w a 1;check w a 20;pump a w 0");
        none("e", x, 1, e -> x.resist(e, 1), MIN_VALUE, -1, 3, 14, MAX_VALUE);
        Check.under("37 5 (a pump)");
        none("n", x, 5, n -> x.resist(2, n), MIN_VALUE, -1, 0, 1, 20, 21, MAX_VALUE);
        Check.under("37 n (1 .. 20); NONE: 2");
        none("n", x, 2, n -> x.resist(0, n), MIN_VALUE, -1, 0, 21, 22, MAX_VALUE);
        none("n", x, 2, n -> x.resist(1, n), 0, 21);
        Check.answers("as it was", x, x.edge(0, 3), 1);
        Check.answers("as it was", x, x.edge(1, 3), 20);
        Check.under("37 what it was");
        Check.answers("20", x, x.resist(0, 20), 1);
        Check.answers("1", x, x.resist(0, 1), 20);
        Check.answers("a check", x, x.resist(1, 1), 20);
        Check.answers("now", x, x.edge(1, 3), 1);
        RingWaters y = Tape.told(FULL);
        Check.answers("the 14th", y, y.resist(13, 1), 20);
        Check.refused("a 15th", y, y.resist(14, 1), 1);
    }

    private static void undo() {
        Check.under("38 how many still can be; NONE: 5");
        RingWaters x = Tape.told(TINY);
        Check.refused("none yet", x, x.undo(), 5);
        x.draw(1, 2);
        Check.answers("the only one", x, x.undo(), 0);
        Check.refused("none left", x, x.undo(), 5);
        for (int i = 0; i < 12; i++) {
            x.draw(1, 10 + i);
        }
        Check.answers("of 12", x, x.undo(), 11);
        x.draw(1, 3);
        x.draw(1, 4);
        Check.answers("of 13", x, x.undo(), 11);
        Check.answers("as it was", x, x.joint(1, 0), 3);
        Check.under("38 The latest act is undone: at the last EDGE, the last JOINT");
        RingWaters y = Tape.told(FULL);
        y.resist(13, 3);
        y.valve(13, true);
        y.draw(8, 7);
        y.undo();
        Check.answers("draw", y, y.joint(8, 0), 0);
        y.undo();
        Check.answers("valve", y, y.edge(13, 4), 0);
        y.undo();
        Check.answers("resist", y, y.edge(13, 3), 20);
        y.valve(13, true);
        y.valve(12, true);
        y.valve(13, false);
        y.undo();
        Check.answers("an opening", y, y.edge(13, 4), 1);
        Check.answers("the other", y, y.edge(12, 4), 1);
        y.undo();
        Check.answers("the other's closing", y, y.edge(12, 4), 0);
        Check.answers("CLOSED still", y, y.edge(13, 4), 1);
    }

    // ---- what is told

    private static void named() {
        Check.under("39 NoSuchElementException if there is none such (n can't be, too)");
        RingWaters x = Tape.told("well spring 9;joint a 1 at 0;joint ab 1 at 0;joint abcdef 1 at 0;pipe spring a 1;"
                + "pipe a ab 1;pipe ab abcdef 1");
        for (int n : new int[] {MIN_VALUE, -1, 0, 1, 20, 600, MAX_VALUE}) {
            Check.noSuch("an empty TAPE, " + n, x, n);
        }
        Tape.feed(x, "ab");
        for (int n : new int[] {MIN_VALUE, -1, 0, 21, 40, MAX_VALUE}) {
            Check.noSuch("20 bytes, " + n, x, n);
        }
        Check.under("39 The JOINT whose NAME lies in the first n bytes (which stays)");
        Check.due("a", x.named(1), 1);
        Check.due("ab", x.named(2), 2);
        Check.due("ab and a blank", x.named(3), 2);
        Check.due("ab and blanks to the end", x.named(20), 2);
        Check.due("it stays", x.size(), 20);
        Check.due("a again", x.named(1), 1);
        Check.under("39 blanks ahead of it, behind it aside");
        x.text(0);
        Tape.feed(x, "   abcdef            ");
        for (int n = 0; n <= 40; n++) {
            int due = n < 4 ? -1 : n == 4 ? 1 : n == 5 ? 2 : n < 9 ? -1 : 3;
            if (due == -1) {
                Check.noSuch("first " + n, x, n);
            } else {
                Check.due("first " + n, x.named(n), due);
            }
        }
        Check.under("39 there is none such: other bytes, more than a NAME");
        String[] none = {"b", "abc", "abcde", "abcdefg", "a b", "a a", "aa", "a;", ";a", "a,", "a1", "1", "A", "a\t", "a\n", "well",
            "joint", "at", "pipe", "springs", "sprin", "aspring", "" + (char) 0, "a" + (char) 0, "" + (char) 225, "a" + (char) 160};
        for (String each : none) {
            x.text(0);
            Tape.feed(x, each);
            Check.noSuch("'" + each + "'", x, each.length());
            Check.noSuch("'" + each + "' and blanks", x, 20);
        }
        Check.under("39 the well's NAME is JOINT 0's");
        x.text(0);
        Tape.feed(x, "spring");
        Check.due("spring", x.named(6), 0);
        Check.noSuch("sprin", x, 5);
        Check.under("39 no TEXT: none such");
        RingWaters y = new RingWaters();
        Tape.feed(y, "a");
        Check.noSuch("a", y, 1);
        Check.noSuch("blanks", y, 20);
        Check.under("39 a full TAPE, the eighth joint");
        RingWaters z = Tape.told(STAR);
        Tape.feed(z, " ".repeat(599) + "h");
        Check.due("h at its end", z.named(600), 8);
        Check.noSuch("599 blanks", z, 599);
        Check.noSuch("601", z, 601);
        z.text(0);
        Tape.feed(z, " ".repeat(600));
        Check.noSuch("600 blanks", z, 600);
    }

    private static void size() {
        Check.under("40 Bytes of THE TAPE: none, all");
        RingWaters x = new RingWaters();
        Check.due("new", x.size(), 0);
        for (int i = 1; i <= 31; i++) {
            x.feed(0, 0, 0, 0, 0);
            Check.due("behind " + i, x.size(), i <= 30 ? 20 * i : 600);
        }
        x.text(601);
        Check.due("refused by 2", x.size(), 600);
        x.text(3);
        Check.due("refused by 4", x.size(), 0);
        Tape.feed(x, TINY);
        x.text(TINY.length());
        Check.due("taken", x.size(), 0);
    }

    private static void trouble() {
        Check.under("41 TROUBLE: 0 ahead of any call");
        RingWaters x = new RingWaters();
        Check.due("new", x.trouble(), 0);
        Check.due("asked again", x.trouble(), 0);
        Check.under("41 TROUBLE of the latest: 1, 2, 4, 5, 0");
        x.undo();
        Check.due("1", x.trouble(), 1);
        x.text(1);
        Check.due("2", x.trouble(), 2);
        x.text(0);
        Check.due("4", x.trouble(), 4);
        Tape.tell(x, TINY);
        Check.due("0", x.trouble(), 0);
        x.undo();
        Check.due("5", x.trouble(), 5);
        x.weakest();
        Check.due("0 again", x.trouble(), 0);
    }

    /** 9 JOINTS, 14 EDGES, the last of all kinds: no call goes beyond its rows. */
    private static void everyCallOnAFullNet() {
        Check.under("as much as can be told: every call has an answer");
        RingWaters x = Tape.told(FULL);
        for (int j = 1; j <= 8; j++) {
            x.measure(j, 900);
        }
        Check.answers("work", x, x.work(), 0);
        Check.answers("weakest", x, x.weakest(), 1);
        Check.answers("gap", x, x.gap(60), 0);
        Check.answers("scaled", x, x.scaled(300), 900);
        Check.answers("most", x, x.most(900), 300);
        Check.answers("most", x, x.most(901), -2);
        Check.answers("vital: h hangs by one", x, x.vital(), 128);
        // a and g each have two EDGES, the others three: both of a's (0, 8), of g's (6, 13) make one DRY.
        Check.answers("pairs", x, x.pairs(), 2);
        // Only EDGE 13 has RESIST above 1.
        Check.answers("widen", x, x.widen(), 13);
        Check.answers("widened", x, x.widened(), 900);
        Check.answers("fire", x, x.fire(8, 899), 1);
        Check.answers("off", x, x.off(8, 2), 4);
        Check.answers("leak: 1 at h is 1 off", x, x.leak(2), 1);
        Check.answers("behind", x, x.behind(0), 8);
        Check.under("as much as can be told: FLOWS that move");
        // h draws 6 by EDGE 7 and 13 beside it: -36 by 1 and 13: -2.57: 3 in EDGE 13, 3 in EDGE 7.
        x = Tape.told(STAR.replace("joint h 0", "joint h 6") + ";pipe w a 1;pipe w b 1;pipe w c 1;pipe w d 1;pipe w e 1;pipe w h 1");
        Check.answers("EDGE 7", x, x.flow(7), 3);
        Check.answers("EDGE 13", x, x.flow(13), 3);
        Check.answers("SWEEPS", x, x.about(5), 2);
        Check.answers("HEAD", x, x.head(8), 900 - 9);
        Check.answers("BEGIN", x, x.early(7, 0), 6);
        Check.answers("gap", x, x.gap(0), 36);
        Check.answers("balance", x, x.balance(8), 0);
        x = Tape.told(STAR + ";pipe w a 1;pipe w b 1;pipe w c 1;pipe w d 1;pipe w e 1;pump w h 6");
        Check.answers("a pump at the end", x, x.edge(13, 2), 2);
        Check.answers("its LIFT", x, x.lossAt(13, 9, 0), -600);
        Check.answers("beyond its number", x, x.lossAt(13, 10, 0), 0);
    }
}
