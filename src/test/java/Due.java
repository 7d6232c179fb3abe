/** What the tests share: answers that are compared with what is due, and texts that are fed. */
final class Due {
    static final long NO = NobodyCanLiftIt.NO;
    private static int wrong = 0;
    private static int asked = 0;

    private Due() {
    }

    static void is(String call, long got, long want) {
        asked++;
        if (got != want) {
            wrong++;
            System.out.println(call + " answered " + got + ", due is " + want);
        }
    }

    static void isTrue(String what, boolean holds) {
        is(what, holds ? 1 : 0, 1);
    }

    /** Feeds a text byte by byte. */
    static void feed(NobodyCanLiftIt x, String text) {
        for (int i = 0; i < text.length(); i++) {
            x.feed(text.charAt(i));
        }
    }

    /** What text() answers to this tape. */
    static int read(NobodyCanLiftIt x, String text) {
        feed(x, text);
        return x.text();
    }

    /** A sheet becomes these numbers. */
    static void fill(NobodyCanLiftIt x, int sheet, int sort, int... numbers) {
        x.sheet(sheet, sort, numbers.length);
        for (int i = 0; i < numbers.length; i++) {
            x.cell(sheet, i, numbers[i]);
        }
    }

    /** An object whose rule is a text of these three. */
    static NobodyCanLiftIt by(String feels, String strong, String eases) {
        NobodyCanLiftIt x = new NobodyCanLiftIt();
        is("by " + feels + ", " + strong + ", " + eases,
            read(x, "feels " + feels + "; strong " + strong + "; eases " + eases + ";"), 1);
        x.force(1);
        return x;
    }

    /** What is just outside of these bounds, and far. */
    static int[] outside(int least, int most) {
        return new int[] {least - 1, most + 1, Integer.MIN_VALUE, Integer.MAX_VALUE, least - 65536, most + 65536};
    }

    static void end() {
        System.out.println(asked + " answers, " + wrong + " not as due");
        if (wrong != 0 || asked == 0) {
            System.exit(1);
        }
    }
}
