/**
 * Terms I, THE TEXT and its FAULTS, sentence by sentence: the last that is taken, the first that isn't, on both sides.
 * What is due follows from the sentence that each test stands under.
 */
public final class TermsTextTest {
    private static final String ONE = "well w 9;joint a 1 at 0;";
    private static final String[] KEPT = {"well", "joint", "at", "pipe", "check", "pump"};

    public static void main(String[] args) {
        theTape();
        blanks();
        words();
        wholes();
        singleSigns();
        linesInARow();
        theWell();
        joints();
        pipesAndChecks();
        pumps();
        edges();
        names();
        firstTokenFromTheLeft();
        leastNumberOfOneToken();
        form();
        bounds();
        nameFaults();
        many();
        lacks();
        Check.end();
    }

    // ---- how a text is told and looked at

    private static RingWaters taken(String text, int joints) {
        RingWaters x = new RingWaters();
        Check.answers("'" + text + "'", x, Tape.tell(x, text), joints);
        Check.due("'" + text + "', fault", x.fault(), 0);
        Check.due("'" + text + "', where", x.where(), -1);
        return x;
    }

    private static void faulty(int fault, String text, int where) {
        RingWaters x = new RingWaters();
        Check.refused("'" + text + "'", x, Tape.tell(x, text), 4);
        Check.due("'" + text + "', fault", x.fault(), fault);
        Check.due("'" + text + "', where", x.where(), where);
        Check.refused("'" + text + "', no TEXT", x, x.about(0), 1);
    }

    /** A ^ stands ahead of the TOKEN at which the FAULT is. */
    private static void faulty(int fault, String... marked) {
        for (String each : marked) {
            faulty(fault, each.replace("^", ""), each.indexOf('^'));
        }
    }

    /** The well and as many joints, a, b, c .., that draw nothing; no EDGE. */
    private static String joints(int count) {
        StringBuilder text = new StringBuilder("well w 9");
        for (int j = 0; j < count; j++) {
            text.append(";joint ").append((char) ('a' + j)).append(" 0 at 0");
        }
        return text.toString();
    }

    private static String joined(int count) {
        StringBuilder text = new StringBuilder(joints(count));
        for (int j = 0; j < count; j++) {
            text.append(";pipe w ").append((char) ('a' + j)).append(" 1");
        }
        return text.toString();
    }

    // ---- the sentences

    private static void theTape() {
        Check.under("I. THE TAPE has 600 bytes");
        String text = "well w 9;joint a 1 at 0;pipe w a 1";
        taken(text + " ".repeat(600 - text.length()), 2);
        taken(" ".repeat(600 - text.length()) + text, 2);
        RingWaters x = new RingWaters();
        Tape.feed(x, text + " ".repeat(600 - text.length()));
        Check.due("full", x.size(), 600);
        Check.due("one feed more", x.feed(0x3b3b3b3b, 0, 0, 0, 0), -1);
        Check.answers("what stood there is read", x, x.text(600), 2);
        Tape.feed(x, " ".repeat(580));
        Check.due("580", x.size(), 580);
        Check.due("580 and 20", x.feed(0, 0, 0, 0, 0), 600);
    }

    private static void blanks() {
        Check.under("I. blanks, 32, part TOKENS and mean nothing else");
        taken("well w9;joint a1at0;pipe w a1", 2);
        taken("  well  w  9  ;  joint  a  1  at  0  ;  pipe  w  a  1  ", 2);
        RingWaters x = taken("well w 9;joint a 1 at 0;pump w a 5 , 4 ,3, 2", 2);
        Check.answers("LIFTS between blanks", x, x.lossAt(0, 30, 0), -200);
        faulty(1, "^wel l w 9", "well w 9;^jo int a 1 at 0", "well w 9;joint a 1 ^a t 0", ONE + "^pi pe w a 1");
        faulty(1, "well w 9 ^9;joint a 1 at 0", ONE + "pipe w a 1 ^0", ONE + "pump w a 5, ^,4");
        faulty(3, ONE + "joint ^a b 1 at 0");
        faulty(1, ONE + "joint b ^a 1 at 0");
        Check.under("I. a byte that isn't a blank, a letter, a digit, ; , begins no TOKEN: all 256 behind a whole text");
        String text = ONE + "pipe w a 1";
        for (int b = 0; b < 256; b++) {
            String each = text + (char) b;
            if (b == ' ' || b >= '0' && b <= '9') {
                x = taken(each, 2);
                Check.answers("RESIST", x, x.edge(0, 3), b == ' ' ? 1 : 10 + b - '0');
            } else {
                faulty(1, each, b == ';' ? each.length() : text.length());
            }
        }
        Check.under("I. all 256 bytes behind a LIFT: a blank, a digit, ; , alone may stand there");
        text = ONE + "pump w a 9";
        for (int b = 0; b < 256; b++) {
            String each = text + (char) b + "3";
            if (b == ',') {
                x = taken(each, 2);
                Check.answers("a second LIFT", x, x.lossAt(0, 10, 0), -300);
            } else if (b == '0') {
                faulty(2, ONE + "pump w a ^903");
            } else if (b >= '1' && b <= '9') {
                faulty(2, each, text.length() - 1);
            } else {
                faulty(1, each, b == ' ' || b == ';' ? text.length() + 1 : text.length());
            }
        }
        text = ONE + "pipe w a 1";
        Check.under("I. all 256 bytes ahead of a whole text: blanks alone may stand there");
        for (int b = 0; b < 256; b++) {
            String each = (char) b + text;
            if (b == ' ') {
                taken(each, 2);
            } else {
                faulty(1, each, 0);
            }
        }
    }

    private static void words() {
        Check.under("I. WORDS of 1 to 6 small letters: all 256 bytes as a NAME");
        for (int b = 0; b < 256; b++) {
            String text = "well w 9;joint " + (char) b + " 1 at 0;pipe w " + (char) b + " 1";
            if (b >= 'a' && b <= 'z' && b != 'w') {
                taken(text, 2);
            } else {
                faulty(b == 'w' ? 3 : 1, text, b == ' ' ? 17 : 15);
            }
        }
        Check.under("I. WORDS of 1 to 6 small letters that stand together; too many: at the first of these");
        for (int letters = 1; letters <= 6; letters++) {
            String name = "abcdef".substring(0, letters);
            taken("well " + name + " 9;joint j 1 at 0;pipe " + name + " j 1", 2);
            taken("well w 9;joint " + name + " 1 at 0;pipe w " + name + " 1", 2);
        }
        faulty(1, "well ^abcdefg 9", "well ^abcdefghijklmnopqrstuvwxyz 9", "well w 9;joint ^abcdefg 1 at 0",
                ONE + "pipe ^abcdefg a 1", ONE + "pipe w ^abcdefg 1", "^wellwell w 9", "well w 9;^jointjo a 1 at 0");
        faulty(1, "well ^" + "a".repeat(595));
        faulty(1, "well abcdef ^g 9");
        RingWaters x = new RingWaters();
        Tape.feed(x, "well w 9;joint abcdef 1 at 0;pipe w abcdefg");
        Check.refused("the seventh letter is behind the text: the end lacks a WHOLE", x, x.text(42), 4);
        Check.due("its FAULT", x.fault(), 1);
        Check.due("its place, the end", x.where(), 42);
    }

    private static void wholes() {
        Check.under("I. WHOLES of 1 to 3 digits that stand together; too many: at the first of these");
        String[] told = {"0", "00", "000", "7", "07", "007", "60", "060", "10", "9"};
        int[] due = {0, 0, 0, 7, 7, 7, 60, 60, 10, 9};
        for (int i = 0; i < told.length; i++) {
            RingWaters x = taken("well w 9;joint a " + told[i] + " at 0;pipe w a 1", 2);
            Check.answers("DRAWS " + told[i], x, x.joint(1, 0), due[i]);
        }
        faulty(1, "well w ^0000", "well w ^0009", "well w ^1000", "well w ^9999", "well w ^" + "0".repeat(593),
                "well w 9;joint a ^0001 at 0", "well w 9;joint a 1 at ^0000", ONE + "pipe w a ^0001",
                ONE + "check w a ^0001", ONE + "pump w a ^0001", ONE + "pump w a 1,^0001");
        faulty(1, "well w ^99999999999999999999", "well w ^4294967297");
        RingWaters x = new RingWaters();
        Tape.feed(x, "well w 9999");
        Check.refused("the fourth digit is behind the text", x, x.text(10), 4);
        Check.due("it lacks joints alone", x.fault(), 5);
    }

    private static void singleSigns() {
        Check.under("I. single ones of ; ,");
        faulty(1, "^;", "^,", "well w 9;^;joint a 1 at 0", "well w 9;^,", "well w 9^,joint a 1 at 0", ONE + "pump w a 5,^,4",
                ONE + "pump w a 5;^,4", ONE + "pump w a 5,^;", ONE + "pipe w a 1;^;");
        faulty(1, "well w ^-1", "well w ^+1", "well w 1^.5", "well w 1^:", "well ^\"w\" 1");
    }

    private static void linesInARow() {
        Check.under("I. LINE {; LINE}");
        faulty(1, "^", "    ^", "well w 9;^", "well w 9;  ^", ONE + "pipe w a 1;^", ONE + "pipe w a 1 ^pipe w a 1",
                "well w 9 ^joint a 1 at 0", ONE + "pump w a 5 ^pump w a 5");
        Check.under("I. LINES in any order behind the first");
        RingWaters x = taken("well w 9;joint a 1 at 0;pipe w a 1;joint b 1 at 0;pump a b 1;joint c 1 at 0;check b c 1", 4);
        Check.answers("c, the third", x, x.edge(2, 1), 3);
    }

    private static void theWell() {
        Check.under("I. well: the first LINE, and no other");
        faulty(1, "^joint a 1 at 0;well w 9", "^pipe w a 1", "^check w a 1", "^pump w a 1", "^at", "^w 9",
                "well w 9;^well v 9", "well w 9;^well w 9", ONE + "pipe w a 1;^well v 9");
        Check.under("I. its HEAD, 0 .. 999");
        RingWaters x = taken("well w 0;joint a 0 at 0;pipe w a 1", 2);
        Check.answers("0", x, x.head(0), 0);
        x = taken("well w 999;joint a 0 at 0;pipe w a 1", 2);
        Check.answers("999", x, x.head(0), 99900);
        faulty(1, "well w ^1000;joint a 0 at 0;pipe w a 1", "well w ^-1");
        Check.under("I. a LINE that is cut short");
        faulty(1, "well^", "well ^", "well w^", "well w ^;joint a 1 at 0", "well ^9", "well ^;");
    }

    private static void joints() {
        Check.under("I. joint: how much it DRAWS, 0 .. 60");
        int[] draws = {0, 1, 59, 60};
        for (int n : draws) {
            RingWaters x = taken("well w 9;joint a " + n + " at 0;pipe w a 1", 2);
            Check.answers("DRAWS", x, x.joint(1, 0), n);
        }
        faulty(2, "well w 9;joint a ^61 at 0", "well w 9;joint a ^061 at 0", "well w 9;joint a ^99 at 0",
                "well w 9;joint a ^100 at 0", "well w 9;joint a ^999 at 0");
        Check.under("I. joint: how high it lies, 0 .. 300");
        int[] heights = {0, 1, 299, 300};
        for (int n : heights) {
            RingWaters x = taken("well w 9;joint a 0 at " + n + ";pipe w a 1", 2);
            Check.answers("height", x, x.joint(1, 1), 100 * n);
        }
        faulty(2, "well w 9;joint a 0 at ^301", "well w 9;joint a 60 at ^999");
        Check.under("I. joint: up to 8, numbered from 1 on");
        for (int count = 1; count <= 8; count++) {
            RingWaters x = taken(joined(count), count + 1);
            Tape.feed(x, "" + (char) ('a' + count - 1));
            Check.due("number of the last", x.named(1), count);
        }
        faulty(4, joints(8) + ";^joint i 0 at 0");
        Check.under("I. a joint's LINE that is cut short, or has another WORD");
        faulty(1, "well w 9;joint^", "well w 9;joint a^", "well w 9;joint a 1^", "well w 9;joint a 1 at^",
                "well w 9;joint ^1 at 0", "well w 9;joint a ^at 0", "well w 9;joint a 1 ^0", "well w 9;joint a 1 ^on 0",
                "well w 9;joint a 1 ^att 0", "well w 9;joint a 1 ^a 0", "well w 9;joint a 1 at ^;");
    }

    private static void pipesAndChecks() {
        for (String kind : new String[] {"pipe", "check"}) {
            Check.under("I. " + kind + ": RESIST, 1 .. 20");
            int[] resists = {1, 2, 19, 20};
            for (int n : resists) {
                RingWaters x = taken(ONE + kind + " w a " + n, 2);
                Check.answers("RESIST", x, x.edge(0, 3), n);
            }
            faulty(2, ONE + kind + " w a ^0", ONE + kind + " w a ^000", ONE + kind + " w a ^21", ONE + kind + " w a ^021",
                    ONE + kind + " w a ^999");
            Check.under("I. " + kind + ": between two JOINTS told ahead, unlike ones");
            RingWaters x = taken(ONE + kind + " a w 1", 2);
            Check.answers("FIRST", x, x.edge(0, 0), 1);
            Check.answers("SECOND, the well", x, x.edge(0, 1), 0);
            faulty(3, ONE + kind + " ^b a 1;joint b 1 at 0", ONE + kind + " w ^b 1;joint b 1 at 0",
                    ONE + kind + " a ^a 1", ONE + kind + " w ^w 1", "well w 9;" + kind + " w ^a 1;joint a 1 at 0");
            Check.under("I. " + kind + ": a LINE that is cut short, or goes on");
            faulty(1, ONE + kind + "^", ONE + kind + " w^", ONE + kind + " w a^", ONE + kind + " ^1", ONE + kind + " w ^1",
                    ONE + kind + " w a ^;", ONE + kind + " w a 1^,1", ONE + kind + " w a 1 ^1", ONE + kind + " w a ^a 1");
        }
    }

    private static void pumps() {
        Check.under("I. pump: up to 6 LIFTS");
        RingWaters x = taken(ONE + "pump w a 6", 2);
        Check.answers("one: the first", x, x.lossAt(0, 0, 0), -600);
        Check.answers("one: none behind it", x, x.lossAt(0, 10, 0), 0);
        x = taken(ONE + "pump w a 6,5,4,3,2,1", 2);
        Check.answers("six: the last", x, x.lossAt(0, 59, 0), -100);
        faulty(4, ONE + "pump w a 6,5,4,3,2,1,^0", ONE + "pump w a 6,5,4,3,2,1,^1,0", ONE + "pump w a 0,0,0,0,0,0,^0");
        faulty(1, ONE + "pump w a^", ONE + "pump w a^;pipe w a 1", ONE + "pump w a ^,5");
        Check.under("I. pump: LIFTS, 0 .. 300");
        int[] lifts = {0, 1, 299, 300};
        for (int n : lifts) {
            x = taken(ONE + "pump w a " + n + "," + n, 2);
            Check.answers("LIFT " + n, x, x.lossAt(0, 0, 0), -100 * n);
            Check.answers("LIFT " + n + " again", x, x.lossAt(0, 10, 0), -100 * n);
        }
        faulty(2, ONE + "pump w a ^301", ONE + "pump w a ^999", ONE + "pump w a 300,^301");
        Check.under("I. pump: none above the one ahead");
        taken(ONE + "pump w a 9,9,8,8,0,0", 2);
        taken(ONE + "pump w a 300,0", 2);
        faulty(2, ONE + "pump w a 9,^10", ONE + "pump w a 0,^1", ONE + "pump w a 9,8,^9", ONE + "pump w a 9,9,9,9,9,^10",
                ONE + "pump w a 299,^300");
        Check.under("I. pump: likewise, two JOINTS told ahead, unlike ones");
        faulty(3, ONE + "pump ^b a 1;joint b 1 at 0", ONE + "pump w ^b 1", ONE + "pump w ^w 1", ONE + "pump a ^a 1");
        Check.under("I. pump: a LINE that is cut short");
        faulty(1, ONE + "pump^", ONE + "pump w^", ONE + "pump w a 5,^", ONE + "pump w a 5,  ^", ONE + "pump w a 5,^a",
                ONE + "pump w a 5 ^4", ONE + "pump w a 5,^;pipe w a 1");
    }

    private static void edges() {
        Check.under("I. EDGES: up to 14, numbered from 0; more than one may be between two JOINTS");
        for (String kind : new String[] {"pipe", "check", "pump"}) {
            for (int count = 1; count <= 14; count++) {
                RingWaters x = taken("well w 9;joint a 0 at 0" + (";" + kind + " w a 1").repeat(count), 2);
                Check.answers("EDGES", x, x.about(1), count);
                Check.answers("the last", x, x.edge(count - 1, 1), 1);
                Check.refused("beyond the last", x, x.edge(count, 1), 1);
            }
            faulty(4, "well w 9;joint a 0 at 0" + (";" + kind + " w a 1").repeat(14) + ";^" + kind + " w a 1");
        }
        RingWaters x = taken("well w 9;joint a 0 at 0;pipe w a 1;pipe a w 2;check w a 3;pump a w 4", 2);
        for (int e = 0; e < 4; e++) {
            Check.answers("FIRST of " + e, x, x.edge(e, 0), e % 2);
            Check.answers("SECOND of " + e, x, x.edge(e, 1), 1 - e % 2);
        }
    }

    private static void names() {
        Check.under("I. NAMES are WORDS but well, joint, at, pipe, check, pump");
        for (String kept : KEPT) {
            faulty(1, "well ^" + kept + " 9", "well w 9;joint ^" + kept + " 1 at 0", ONE + "pipe ^" + kept + " a 1",
                    ONE + "pipe w ^" + kept + " 1", ONE + "check ^" + kept + " a 1", ONE + "pump w ^" + kept + " 1");
            String shorter = kept.substring(1);
            String longer = kept + "s";
            taken("well " + shorter + " 9;joint " + longer + " 1 at 0;pipe " + longer + " " + shorter + " 1", 2);
        }
        Check.under("I. each told once");
        faulty(3, "well w 9;joint ^w 1 at 0", ONE + "joint ^a 1 at 0", ONE + "joint b 1 at 0;joint ^a 1 at 0",
                "well abcdef 9;joint ^abcdef 1 at 0");
        taken("well abcdef 9;joint abcde 1 at 0;joint abcdeg 1 at 0;pipe abcdef abcde 1;pipe abcde abcdeg 1", 3);
        taken("well a 9;joint aa 1 at 0;joint aaa 1 at 0;pipe a aa 1;pipe aa aaa 1", 3);
        Check.under("I. a NAME of an earlier TEXT may be told again, one that had a FAULT too");
        RingWaters x = Tape.told(ONE + "pipe w a 1");
        Tape.tell(x, "well w 9;joint q 1 at 0;joint r 61 at 0");
        Check.answers("again", x, Tape.tell(x, "well q 9;joint r 1 at 0;joint w 1 at 0;joint a 1 at 0;pipe q r 1;pipe r w 1;pipe w a 1"), 4);
    }

    private static void firstTokenFromTheLeft() {
        Check.under("I. Told is the first TOKEN, from the left, at which one is found");
        faulty(2, "well w 9;joint a ^61 at 0;joint a 1 at 0", "well w 9;joint a ^61 on 0", "well w 9;joint a ^61 at 0 !",
                "well w 9;joint a 1 at ^301;pipe a a 1", ONE + "pump w a 1,^2,3", ONE + "pipe w a ^0;pipe w a x");
        faulty(3, "well w 9;joint ^w 61 at 0", ONE + "pipe ^x y 99", ONE + "pipe a ^a 0", ONE + "pump ^x at 301",
                "well w 9;joint ^w abcdefg", ONE + "pipe w ^x ;;");
        faulty(1, "well ^at 1000", ONE + "pipe ^at a 0", "well w 9;^jont w 61 at 0", ONE + "pipe ^! x 0");
        faulty(4, joints(8) + ";^joint a 61 at 301", joints(8) + ";^joint !", joints(8) + ";^joint");
        Check.under("I. LACKS is at the end, so any other comes first");
        faulty(1, "well w 9;^", "well w 9 ^9", ONE + "^");
        faulty(2, ONE + "pipe w a ^21");
    }

    private static void leastNumberOfOneToken() {
        Check.under("I. of one TOKEN the least number");
        faulty(2, ONE + "pump w a 6,5,4,3,2,1,^2", ONE + "pump w a 6,5,4,3,2,1,^301", ONE + "pump w a 0,0,0,0,0,0,^1");
        faulty(1, ONE + "pump w a 6,5,4,3,2,1,^0000", ONE + "pump w a 6,5,4,3,2,1,^a", ONE + "pump w a 6,5,4,3,2,1,^;",
                ONE + "pump w a 6,5,4,3,2,1,^,", ONE + "pump w a 6,5,4,3,2,1,^", ONE + "pump w a 6,5,4,3,2,1,^!");
        faulty(1, "well w ^1000", "well w 9;joint a ^9999 at 0", ONE + "pipe ^abcdefg abcdefg 1");
        faulty(3, ONE + "pipe ^b b 1");
        faulty(1, "well w^", "well w 9;joint a 1 at^", "well w 9;joint a 1^");
    }

    private static void form() {
        Check.under("I. FORM: the end of the text: how many bytes it has");
        faulty(1, "", 0);
        faulty(1, "      ", 6);
        faulty(1, " ".repeat(600), 600);
        faulty(1, "well", 4);
        faulty(1, "well   ", 7);
        faulty(1, "well w 9;joint a 1 at       ", 28);
        RingWaters x = new RingWaters();
        Tape.feed(x, "well w 9;joint a 1 at 0;pipe w a 1");
        Check.refused("bytes behind the first n are none of it", x, x.text(32), 4);
        Check.due("its FAULT", x.fault(), 1);
        Check.due("its place", x.where(), 32);
        Check.under("I. FORM: a TOKEN with which no TEXT goes on");
        faulty(1, "^5", "^abc", "well ^5 w", "well w ^w 9", "well w 9;^a", "well w 9;^9", "well w 9;^at", ONE + "^w a 1");
    }

    private static void bounds() {
        Check.under("I. FAULT 2: at the WHOLE itself, though no TEXT could be told from there on");
        faulty(2, "well w 9;joint a ^61", "well w 9;joint a 60 at ^301", ONE + "pipe w a ^0", ONE + "check w a ^21",
                ONE + "pump w a ^301", ONE + "pump w a 300,^301");
    }

    private static void nameFaults() {
        Check.under("I. FAULT 3: one told again, one that isn't told ahead; the SECOND, if it is the FIRST");
        faulty(3, "well w 9;joint ^w", ONE + "joint ^a", ONE + "pipe ^b", ONE + "pipe a ^b", ONE + "pipe a ^a", ONE + "check w ^w",
                ONE + "pump ^wa", ONE + "pump w ^aw", ONE + "pipe w ^wa");
    }

    private static void many() {
        Check.under("I. FAULT 4: a ninth joint at the LINE's first WORD");
        faulty(4, joints(8) + ";^joint i 0 at 0", joined(8) + ";^joint i 0 at 0", joints(8) + ";  ^joint", joints(8) + ";^joint;");
        faulty(5, joints(8) + "^");
        Check.under("I. FAULT 4: a 15th EDGE at the LINE's first WORD, whatever it is");
        String full = "well w 9;joint a 0 at 0" + ";pipe w a 1".repeat(14);
        faulty(4, full + ";^pipe w a 1", full + ";^check w a 1", full + ";^pump w a 1", full + ";  ^pipe", full + ";^check x x 0",
                full + ";^pump 5");
        faulty(1, full + ";^pumps w a 1", full + ";^well w 1", full + ";^", full + ";^,");
        Check.under("I. a joint may be told behind the 14th EDGE, an EDGE behind the eighth joint");
        taken("well w 9;joint a 0 at 0;joint b 0 at 0" + ";pipe w a 1".repeat(13) + ";pipe a b 1", 3);
        faulty(5, full + ";joint b 0 at 0^");
        taken(joined(8) + ";check w a 1;check a b 1;check b c 1;check c d 1;check d e 1;check e f 1", 9);
    }

    private static void lacks() {
        Check.under("I. LACKS: at the end: there is no joint");
        faulty(5, "well w 9^", "well w 9   ^", "  well w 9^");
        faulty(5, "well w 9" + " ".repeat(592), 600);
        Check.under("I. LACKS: from the well not all JOINTS can be come to along EDGES");
        faulty(5, "well w 9;joint a 1 at 0^", ONE + "joint b 1 at 0;pipe w a 1^", ONE + "joint b 1 at 0;pipe a b 1^",
                ONE + "joint b 1 at 0;joint c 1 at 0;pipe w a 1;pipe b c 1;check c b 1  ^",
                joints(8) + ";pipe w a 1;pipe a b 1;pipe b c 1;pipe c d 1;pipe d e 1;pipe e f 1;pipe f g 1;pipe w g 1^");
        taken(joints(8) + ";pipe w a 1;pipe a b 1;pipe b c 1;pipe c d 1;pipe d e 1;pipe e f 1;pipe f g 1;pipe g h 1", 9);
        taken(joints(8) + ";pipe g h 1;pipe f g 1;pipe e f 1;pipe d e 1;pipe c d 1;pipe b c 1;pipe a b 1;pipe w a 1", 9);
        Check.under("I. LACKS: (either way): a check, a pump towards the well is enough");
        taken(ONE + "pipe a w 1", 2);
        taken(ONE + "check a w 1", 2);
        taken(ONE + "pump a w 1", 2);
        taken(ONE + "joint b 1 at 0;check b a 1;pump a w 1", 3);
    }
}
