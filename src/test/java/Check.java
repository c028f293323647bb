import java.util.NoSuchElementException;

/** Counts answers that are not as due, tells each, and ends a test with 1 if there was one. */
final class Check {
    private static int asked;
    private static int wrong;
    private static int sentences;
    private static String sentence = "";

    private Check() { }

    /** What comes next is a test of this sentence of the document. */
    static void under(String next) {
        sentences++;
        sentence = "[" + next + "] ";
    }

    static void due(String what, long got, long want) {
        asked++;
        if (got != want) {
            wrong++;
            System.out.println(sentence + what + " answered " + got + ", due is " + want);
        }
    }

    static void isTrue(String what, boolean is) {
        due(what, is ? 1 : 0, 1);
    }

    /** Refused by int: NONE, and the trouble. */
    static void refused(String what, RingWaters x, long got, int why) {
        due(what, got, RingWaters.NONE);
        due(what + ", trouble", x.trouble(), why);
    }

    /** Refused by long: NOTHING, and the trouble. */
    static void nothing(String what, RingWaters x, long got, int why) {
        due(what, got, RingWaters.NOTHING);
        due(what + ", trouble", x.trouble(), why);
    }

    /** An answer, and no trouble. */
    static void answers(String what, RingWaters x, long got, long want) {
        due(what, got, want);
        due(what + ", trouble", x.trouble(), 0);
    }

    static void noSuch(String what, RingWaters x, int n) {
        asked++;
        try {
            int j = x.named(n);
            wrong++;
            System.out.println(sentence + what + " answered " + j + ", due is NoSuchElementException");
        } catch (NoSuchElementException due) {
            // as it should be
        }
    }

    static void end() {
        String under = sentences == 0 ? "" : " under " + sentences + " sentences";
        System.out.println(wrong == 0 ? asked + " answers are as due" + under : wrong + " answers are not as due");
        System.exit(wrong == 0 ? 0 : 1);
    }
}
