/** Counts the answers that are not as due, and ends a test's run. */
final class Due {
    static final int BEYOND = -1000001;
    static final int FULL = -1000002;
    static final int KIND = -1000003;
    static final int NONE = -1000004;
    static final int STATE = -1000005;
    static final int MISSING = -1000006;
    static final int SIZE = -1000007;
    static final int MIN = Integer.MIN_VALUE;
    static final int MAX = Integer.MAX_VALUE;

    private static int asked = 0;
    private static int wrong = 0;

    private Due() {
    }

    static void is(String call, long got, long want) {
        asked++;
        if (got != want) {
            wrong++;
            System.out.println(call + " answered " + got + ", due is " + want);
        }
    }

    /** Puts a text on THE TAPE. */
    static void type(SitDown x, String text) {
        for (int i = 0; i < text.length(); i++) {
            x.feed(text.charAt(i), 1);
        }
    }

    /** A text from HOUR 0 to 959: what text() answers. */
    static int text(SitDown x, int judge, String text) {
        x.wipe();
        type(x, text);
        return x.text(judge, 0, 959);
    }

    /** A sheet of 32 bits with these numbers. */
    static void sheet(SitDown x, int s, int... numbers) {
        x.sheet(s, 32, numbers.length);
        for (int i = 0; i < numbers.length; i++) {
            x.write(s, i, numbers[i]);
        }
    }

    static void end() {
        System.out.println(asked + " answers, " + wrong + " of them wrong");
        if (wrong > 0 || asked == 0) {
            System.exit(1);
        }
    }
}
