/** What the tests share: answers that are due, the findings' numbers, and texts put on the tape. */
final class Due {
    static final int BEYOND = -1000001;
    static final int FULL = -1000002;
    static final int KIND = -1000003;
    static final int NONE = -1000004;
    static final int STATE = -1000005;
    static final int MISSING = -1000006;
    static final int SIZE = -1000007;

    /** Numbers that are wrong nearly everywhere. */
    static final int[] FAR_OUT = {Integer.MIN_VALUE, -1000000, -2, -1, 1000, 1000000, Integer.MAX_VALUE};

    private static int wrong = 0;
    private static int asked = 0;

    private Due() {
    }

    static void due(String call, long got, long want) {
        asked++;
        if (got != want) {
            wrong++;
            System.out.println(call + " answered " + got + ", due is " + want);
        }
    }

    /** Puts a text on the tape, as many bytes a call as can be. */
    static void put(ReleaseTerms x, String text) {
        int at = 0;
        while (at < text.length()) {
            int n = Math.min(4, text.length() - at);
            int bytes = 0;
            for (int i = 0; i < n; i++) {
                bytes = bytes << 8 | text.charAt(at + i);
            }
            x.feed(bytes, n);
            at += n;
        }
    }

    /** What text() answers of a text. */
    static int read(ReleaseTerms x, String text) {
        put(x, text);
        return x.text();
    }

    /** Makes a way of roads from each place to the next, first to last. */
    static void line(ReleaseTerms x, int first, int last) {
        for (int place = first; place < last; place++) {
            x.road(place, place + 1, true);
        }
    }

    static void end(String test) {
        if (wrong != 0) {
            System.out.println(test + ": " + wrong + " of " + asked + " answers are not as due");
            System.exit(1);
        }
        System.out.println(test + ": all " + asked + " answers are as due");
    }
}
