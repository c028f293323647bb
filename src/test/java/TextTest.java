import static java.lang.Integer.MAX_VALUE;
import static java.lang.Integer.MIN_VALUE;

/** Promises 1 to 5 and 39 to 41: a new object, feed, text, fault, where, named, size, trouble. */
public final class TextTest {
    private static final String RING =
            "well w 50;joint a 10 at 20;joint b 6 at 10;pipe w a 1;pipe a b 2;pipe w b 3";
    private static final int BLANKS = 0x20202020;
    private static final String EIGHT_JOINTS = "well w 9;joint a 0 at 0;joint b 0 at 0;joint c 0 at 0;joint d 0 at 0;"
            + "joint e 0 at 0;joint f 0 at 0;joint g 0 at 0;joint h 0 at 0";
    private static final String FOURTEEN_EDGES = "well w 9;joint a 0 at 0" + ";pipe w a 1".repeat(14);

    public static void main(String[] args) {
        newObject();
        feeding();
        telling();
        goodTexts();
        cutTexts();
        faultyTexts();
        faultAndWhere();
        namesOnTheTape();
        troubles();
        Check.end();
    }

    /** Promise 1, and what each call is refused by as long as there is no TEXT. */
    private static void newObject() {
        RingWaters x = new RingWaters();
        Check.due("new: size", x.size(), 0);
        Check.due("new: trouble", x.trouble(), 0);
        Check.due("new: fault", x.fault(), 0);
        Check.due("new: where", x.where(), -1);
        for (int what = -1; what <= 11; what++) {
            Check.refused("new: about " + what, x, x.about(what), 1);
        }
        Check.refused("new: edge", x, x.edge(0, 0), 1);
        Check.nothing("new: flow", x, x.flow(0), 1);
        Check.nothing("new: loss", x, x.loss(0), 1);
        Check.refused("new: joint", x, x.joint(0, 0), 1);
        Check.nothing("new: head", x, x.head(0), 1);
        Check.nothing("new: pressure", x, x.pressure(0), 1);
        Check.refused("new: weakest", x, x.weakest(), 1);
        Check.refused("new: ring", x, x.ring(0, 0), 1);
        Check.nothing("new: sum", x, x.sum(0, 0), 1);
        Check.nothing("new: early", x, x.early(0, 99), 1);
        Check.nothing("new: work", x, x.work(), 1);
        Check.nothing("new: gap", x, x.gap(99), 1);
        Check.nothing("new: balance", x, x.balance(1), 1);
        Check.nothing("new: lossAt", x, x.lossAt(0, 99999, 0), 1);
        Check.refused("new: behind", x, x.behind(0), 1);
        Check.nothing("new: scaled", x, x.scaled(999), 1);
        Check.refused("new: most", x, x.most(99999), 1);
        Check.refused("new: pairs", x, x.pairs(), 1);
        Check.refused("new: fire", x, x.fire(1, 99999), 1);
        Check.refused("new: cut", x, x.cut(0), 1);
        Check.refused("new: vital", x, x.vital(), 1);
        Check.refused("new: widen", x, x.widen(), 1);
        Check.nothing("new: widened", x, x.widened(), 1);
        Check.refused("new: measure", x, x.measure(1, 999999), 1);
        Check.refused("new: forget", x, x.forget(), 1);
        Check.nothing("new: off", x, x.off(1, 99), 1);
        Check.nothing("new: leak", x, x.leak(0), 1);
        Check.refused("new: valve", x, x.valve(0, true), 1);
        Check.refused("new: draw", x, x.draw(1, 99), 1);
        Check.refused("new: well", x, x.well(9999), 1);
        Check.refused("new: resist", x, x.resist(0, 99), 1);
        Check.refused("new: undo", x, x.undo(), 1);
        Check.noSuch("new: named", x, 0);
        Check.due("new: still no fault", x.fault(), 0);
        Check.due("new: still no place", x.where(), -1);
    }

    /** Promises 2 and 40. */
    private static void feeding() {
        RingWaters x = new RingWaters();
        Check.refused("a trouble to stay", x, x.text(1), 2);
        for (int i = 1; i <= 30; i++) {
            Check.due("feed " + i, x.feed(BLANKS, BLANKS, BLANKS, BLANKS, BLANKS), 20 * i);
            Check.due("size " + i, x.size(), 20 * i);
        }
        Check.due("feed beyond 600", x.feed(BLANKS, BLANKS, BLANKS, BLANKS, BLANKS), -1);
        Check.due("size stays", x.size(), 600);
        Check.due("trouble stays", x.trouble(), 2);
        Check.refused("600 blanks", x, x.text(600), 4);
        Check.due("600 blanks end", x.where(), 600);
        Check.due("tape is empty", x.size(), 0);
        Check.due("feed again", x.feed(BLANKS, BLANKS, BLANKS, BLANKS, BLANKS), 20);
        // "well w 5;joint a 1 at 0;pipe w a 1", the highest byte of each number first
        x = new RingWaters();
        x.feed(0x77656c6c, 0x20772035, 0x3b6a6f69, 0x6e742061, 0x20312061);
        x.feed(0x7420303b, 0x70697065, 0x20772061, 0x20312020, BLANKS);
        Check.answers("bytes in order", x, x.text(34), 2);
        // a byte above 127 is one, too, and not a letter
        x.feed(0x77656c6c, 0x20f72035, BLANKS, BLANKS, BLANKS);
        Check.refused("a high byte", x, x.text(20), 4);
        Check.due("a high byte's place", x.where(), 5);
        Check.due("a high byte's fault", x.fault(), 1);
    }

    /** Promise 3. */
    private static void telling() {
        RingWaters x = Tape.told(RING);
        Check.due("tape empty behind a text", x.size(), 0);
        x.measure(1, 500);
        x.draw(1, 3);
        x.valve(0, true);
        Tape.feed(x, "well w 7;joint q 4 at 5;pipe q w 2; and more");
        Check.refused("n below 0", x, x.text(-1), 2);
        Check.refused("n least", x, x.text(MIN_VALUE), 2);
        Check.refused("n above the tape", x, x.text(61), 2);
        Check.refused("n greatest", x, x.text(MAX_VALUE), 2);
        Check.due("tape stays by 2", x.size(), 60);
        Check.answers("net stays by 2", x, x.about(0), 3);
        Check.answers("only the first n bytes", x, x.text(34), 2);
        Check.due("the whole tape is empty", x.size(), 0);
        Check.answers("joints", x, x.about(0), 2);
        Check.answers("edges", x, x.about(1), 1);
        Check.answers("no acts left", x, x.about(7), 0);
        Check.answers("none measured", x, x.about(10), 0);
        Check.refused("nothing to undo", x, x.undo(), 5);
        Check.answers("none closed", x, x.edge(0, 4), 0);
        Check.answers("draw", x, x.joint(1, 0), 4);
        Check.answers("flow", x, x.flow(0), -4);
        Check.answers("head", x, x.head(1), 700 - 32);
        x.measure(1, 600);
        x.draw(1, 6);
        Check.refused("a faulty text", x, Tape.tell(x, "well w 8;joint q 61 at 0"), 4);
        Check.due("tape empty by 4", x.size(), 0);
        Check.answers("net stays by 4", x, x.about(0), 2);
        Check.answers("acts stay by 4", x, x.about(7), 1);
        Check.answers("measured stays by 4", x, x.about(10), 1);
        Check.answers("flow stays by 4", x, x.flow(0), -6);
        Check.answers("undo still", x, x.undo(), 0);
        Check.answers("flow behind undo", x, x.flow(0), -4);
    }

    private static void goodTexts() {
        good("well w 0;joint a 0 at 0;pipe w a 1", 2);
        good("well w 999;joint a 60 at 300;check a w 20", 2);
        good("  well   w  9 ; joint a 1 at 1 ; pump w a 300 , 300,0 ,0, 0,0  ", 2);
        good("well w9;joint a1at0;pipe w a1", 2);
        good("well abcdef 9;joint abcde 1 at 0;pipe abcde abcdef 1", 2);
        good("well wells 9;joint pipes 1 at 0;pipe pipes wells 1", 2);
        good("well w 009;joint a 00 at 000;pipe w a 020", 2);
        good("well w 9;joint a 1 at 0;pipe w a 1;joint b 1 at 0;pipe a b 1", 3);
        good("well az 9;joint zaz 1 at 0;pipe zaz az 19", 2);
        good("well w 90;joint a 59 at 290;pump w a 190,89,9", 2);
        good(FOURTEEN_EDGES, 2);
        good(EIGHT_JOINTS + ";pipe w a 1;pipe w b 1;pipe w c 1;pipe w d 1;check e w 1;pump f w 1;pipe w g 1;pipe w h 1", 9);
    }

    /** Bytes behind the first n are none of the text, though they stand together with its last. */
    private static void cutTexts() {
        RingWaters x = new RingWaters();
        Tape.feed(x, "well w 9;joint a 1 at 0;pipe w a 1234");
        Check.answers("cut in a whole", x, x.text(35), 2);
        Check.answers("its first digits", x, x.edge(0, 3), 12);
        Tape.feed(x, "well w 9;joint a 1 at 0;pipe w a 12");
        Check.answers("cut in a whole again", x, x.text(34), 2);
        Check.answers("its first digit", x, x.edge(0, 3), 1);
        Tape.feed(x, "well w 9;joint a 1 at 0;pipe w a 1;pipex");
        Check.refused("cut in a word", x, x.text(39), 4);
        Check.due("cut in a word, where", x.where(), 39);
        String text = "well w 9;joint a 1 at 0;pipe w a 1";
        String full = text.substring(0, 9) + " ".repeat(600 - text.length()) + text.substring(9);
        Check.answers("600 bytes", x, Tape.tell(x, full), 2);
        full = "well w 9;joint a 1 at 0;" + " ".repeat(571) + "pipew";
        Check.refused("600 bytes that end in a word", x, Tape.tell(x, full), 4);
        Check.due("600 bytes that end in a word, where", x.where(), 595);
        Tape.feed(x, " ".repeat(600));
        Check.noSuch("600 blanks", x, 600);
        x.text(0);
        Tape.feed(x, " ".repeat(599) + "a");
        Check.due("599 blanks and a name", x.named(600), 1);
        Check.noSuch("599 blanks", x, 599);
    }

    private static void good(String text, int joints) {
        RingWaters x = new RingWaters();
        Check.answers(text, x, Tape.tell(x, text), joints);
        Check.due(text + ", fault", x.fault(), 0);
        Check.due(text + ", where", x.where(), -1);
        Check.answers(text + ", about 0", x, x.about(0), joints);
    }

    /** A ^ stands ahead of the TOKEN at which the FAULT is. */
    private static void faultyTexts() {
        String one = "well w 9;joint a 1 at 0;";
        for (String form : new String[] {"^", "   ^", "^w", "^5", "^;", "^,", "^Well w 9", "^wellw 9", "^joint a 1 at 0",
            "^pipe w a 1", "well^", "well w^", "well w ^;", "well ^5", "well ^W 9", "well w ^-9", "well w ^w", "well w9^,",
            "well ^well 9", "well ^joint 9", "well ^at 9", "well ^pipe 9", "well ^check 9", "well ^pump 9",
            "well ^abcdefg 9", "well w ^1000", "well w ^0009", "well w 9^.", "well w 9 ^9", "well w 9;^", "well w 9;^;",
            "well w 9;^well v 9", "well w 9;^a 1 at 0", "well w 9;^5", "well w 9;^jointa 1 at 0", "well w 9;joint ^at 1 at 0",
            "well w 9;joint a ^at 0", "well w 9;joint a 1 ^0", "well w 9;joint a 1 ^on 0", "well w 9;joint a 1 at^",
            "well w 9;joint a 1 at ^a", "well w 9;joint a 1 at 0 ^0", "well w 9;joint a 1 at 0^\t", one + "^",
            one + "pipe ^well a 1", one + "pipe w ^at 1", one + "pipe w ^1", one + "pipe ^1", one + "pipe^", one + "pipe w^", "well w 9;joint^", "well w 9;joint a 1^",
            one + "pump w a 5^.4", one + "pump w a 5,4^.", one + "pipe w a^",
            one + "pipe w a ^a", one + "pipe w a 1^,1", one + "check w a 1 ^,1", one + "check w a 1 ^1", one + "pump w a^",
            one + "pump w a 1,^", one + "pump w a 1,^,", one + "pump w a 1,^;", one + "pump w a 1 ^1", one + "pump w a ^,1",
            one + "pump w a 6,5,4,3,2,1,^", one + "pump w a 6,5,4,3,2,1,^a", one + "pump w a 6,5,4,3,2,1,^0000",
            one + "pipe w a 1^" + (char) 0, one + "pipe w a 1^" + (char) 160, one + "pipe w a 1^" + (char) 225,
            one + "^verylongword w a 1"}) {
            faulty(form, 1);
        }
        for (String bounds : new String[] {"well w 9;joint a ^61 at 0", "well w 9;joint a ^999 at 301",
            "well w 9;joint a 60 at ^301", one + "pipe w a ^0", one + "pipe w a ^21", one + "check w a ^0",
            one + "check w a ^000", one + "check w a ^21", one + "pump w a ^301", one + "pump w a 5,^6",
            one + "pump w a 0,0,^1", one + "pump w a 6,5,4,3,2,1,^2", one + "pump w a 6,5,4,3,2,1,^301"}) {
            faulty(bounds, 2);
        }
        for (String name : new String[] {"well w 9;joint ^w 1 at 0", one + "joint ^a 99 at 0", one + "pipe ^b a 1",
            one + "pipe w ^b 1", one + "pipe ^b b 1", one + "pipe w ^w 1", one + "pipe a ^a 99", one + "check a ^a 1",
            one + "pump w ^w 999", one + "pump ^x w 1", one + "pipe w ^b 1;joint b 1 at 0"}) {
            faulty(name, 3);
        }
        for (String many : new String[] {EIGHT_JOINTS + ";^joint i 0 at 0", EIGHT_JOINTS + ";^joint",
            FOURTEEN_EDGES + ";^pipe w a 1", FOURTEEN_EDGES + ";^check x x 0", FOURTEEN_EDGES + ";^pump",
            one + "pump w a 6,5,4,3,2,1,^1", one + "pump w a 6,5,4,3,2,1,^0"}) {
            faulty(many, 4);
        }
        for (String lacks : new String[] {"well w 9^", "well w 9  ^", "well w 9;joint a 1 at 0^", one + "joint b 1 at 0;pipe w a 1^",
            one + "joint b 1 at 0;pipe a w 1;pump w a 9  ^", one + "joint b 1 at 0;joint c 1 at 0;pipe w a 1;pipe b c 1^"}) {
            faulty(lacks, 5);
        }
    }

    private static void faulty(String marked, int fault) {
        String text = marked.replace("^", "");
        RingWaters x = new RingWaters();
        Check.refused(marked, x, Tape.tell(x, text), 4);
        Check.due(marked + ", fault", x.fault(), fault);
        Check.due(marked + ", where", x.where(), marked.indexOf('^'));
        Check.refused(marked + ", no text", x, x.about(0), 1);
    }

    /** Promises 4 and 5: what the latest calls leave there. */
    private static void faultAndWhere() {
        RingWaters x = new RingWaters();
        Tape.tell(x, "well w 9;joint w 1 at 0");
        Check.due("fault", x.fault(), 3);
        Check.due("where", x.where(), 15);
        Check.due("where again", x.where(), 15);
        x.feed(BLANKS, BLANKS, BLANKS, BLANKS, BLANKS);
        x.size();
        x.trouble();
        Check.noSuch("named", x, 20);
        Check.due("where stays by calls without a trouble", x.where(), 15);
        Check.refused("refused by 2", x, x.text(21), 2);
        Check.due("where of that", x.where(), -1);
        Check.due("fault stays by 2", x.fault(), 3);
        Check.refused("refused by 4", x, x.text(20), 4);
        Check.due("where of blanks", x.where(), 20);
        Check.due("fault of blanks", x.fault(), 1);
        Check.refused("refused by 1", x, x.about(0), 1);
        Check.due("where of that, too", x.where(), -1);
        Check.due("fault stays by another call", x.fault(), 1);
        Tape.tell(x, "well w 9;");
        Check.due("where, 9", x.where(), 9);
        Check.answers("a good text", x, Tape.tell(x, RING), 3);
        Check.due("no fault", x.fault(), 0);
        Check.due("no place", x.where(), -1);
        Tape.tell(x, "well w 9;");
        Check.answers("an answer", x, x.flow(0), 10);
        Check.due("no place behind an answer", x.where(), -1);
        Check.due("but the fault", x.fault(), 1);
    }

    /** Promise 39. */
    private static void namesOnTheTape() {
        RingWaters x = Tape.told("well spring 9;joint a 1 at 0;joint ab 1 at 0;pipe spring a 1;pipe a ab 1");
        Tape.feed(x, "  ab  ");
        x.about(99);
        Check.noSuch("blanks alone", x, 2);
        Check.due("a", x.named(3), 1);
        Check.due("ab", x.named(4), 2);
        Check.due("ab and blanks", x.named(20), 2);
        Check.noSuch("n below 0", x, -1);
        Check.noSuch("n least", x, MIN_VALUE);
        Check.noSuch("no bytes", x, 0);
        Check.noSuch("n above the tape", x, 21);
        Check.noSuch("n greatest", x, MAX_VALUE);
        Check.due("the tape stays", x.size(), 20);
        Check.due("trouble stays", x.trouble(), 1);
        Tape.feed(x, "spring");
        Check.noSuch("two words", x, 26);
        for (String none : new String[] {"aa", "a b", "A", "a;", "1", "spri", "springs", "well", "a" + (char) 0, "\ta"}) {
            x.text(0);
            Tape.feed(x, none);
            Check.noSuch(none, x, none.length());
        }
        x.text(0);
        Tape.feed(x, "spring");
        Check.due("the well", x.named(6), 0);
        x.text(0);
        Tape.feed(x, "     spring   ");
        Check.due("the well among blanks", x.named(14), 0);
        RingWaters y = new RingWaters();
        Tape.feed(y, "a");
        Check.noSuch("no text", y, 1);
    }

    /** Each call that may be refused, and isn't, leaves 0, whatever there was. */
    private static void eachAnswerClears() {
        RingWaters x = Tape.told(RING);
        java.util.List<java.util.function.LongSupplier> calls = java.util.List.of(
                () -> x.measure(1, 7), () -> x.about(0), () -> x.edge(0, 0), () -> x.flow(0), () -> x.loss(0),
                () -> x.joint(0, 0), () -> x.head(0), () -> x.pressure(0), () -> x.weakest(), () -> x.ring(0, 0),
                () -> x.sum(0, 0), () -> x.early(0, 0), () -> x.work(), () -> x.gap(0), () -> x.balance(1),
                () -> x.lossAt(0, 0, 0), () -> x.behind(0), () -> x.scaled(0), () -> x.most(0), () -> x.pairs(),
                () -> x.fire(1, 0), () -> x.cut(0), () -> x.vital(), () -> x.widen(), () -> x.widened(),
                () -> x.off(1, 0), () -> x.leak(0), () -> x.forget(), () -> x.valve(0, true), () -> x.draw(1, 1),
                () -> x.well(9), () -> x.resist(0, 2), () -> x.undo());
        for (int i = 0; i < calls.size(); i++) {
            x.text(0);
            Check.due("place ahead of call " + i, x.where(), 0);
            calls.get(i).getAsLong();
            Check.due("trouble behind call " + i, x.trouble(), 0);
            Check.due("place behind call " + i, x.where(), -1);
        }
    }

    /** Promise 41. */
    private static void troubles() {
        RingWaters x = Tape.told(RING);
        Check.due("0", x.trouble(), 0);
        x.flow(99);
        Check.due("1", x.trouble(), 1);
        x.scaled(999);
        Check.due("2", x.trouble(), 2);
        x.text(0);
        Check.due("4", x.trouble(), 4);
        x.undo();
        Check.due("5", x.trouble(), 5);
        x.size();
        x.fault();
        x.where();
        x.feed(0, 0, 0, 0, 0);
        Check.noSuch("zeros are no name", x, 20);
        Check.due("5 stays", x.trouble(), 5);
        x.flow(0);
        Check.due("0 again", x.trouble(), 0);
        eachAnswerClears();
        // of several the one that the call tells first
        Check.nothing("early", x, x.early(99, 99), 1);
        Check.nothing("lossAt", x, x.lossAt(0, 99999, 2), 1);
        Check.refused("fire", x, x.fire(0, 99999), 1);
        Check.refused("measure", x, x.measure(0, 999999), 1);
        Check.nothing("off", x, x.off(1, 41), 2);
        Check.refused("draw", x, x.draw(0, 99), 1);
    }
}
