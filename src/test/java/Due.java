/** Counts and prints the answers that are not the ones that are due. */
final class Due {
    private static int wrong = 0;
    private static String sentence = "";

    private Due() {
    }

    /** What the document says, and where: printed with each wrong answer from here on. */
    static void sentence(String where, String words) {
        sentence = where + ", \"" + words + "\": ";
    }

    static void is(String call, long got, long want) {
        if (got != want) {
            wrong++;
            System.out.println(sentence + call + " answered " + got + ", due is " + want);
        }
    }

    static void same(String call, String got, String want) {
        if (!got.equals(want)) {
            wrong++;
            System.out.println(sentence + call + ": [" + got + "], due is [" + want + "]");
        }
    }

    static void yes(String call, boolean got) {
        is(call, got ? 1 : 0, 1);
    }

    static void no(String call, boolean got) {
        is(call, got ? 1 : 0, 0);
    }

    static int wrong() {
        return wrong;
    }

    static void end() {
        if (wrong != 0) {
            System.out.println(wrong + " answers are not as due");
            System.exit(1);
        }
    }
}
