/** What the tests share: due answers are compared, wrong ones printed and counted. */
final class Check {
    static final int BEYOND = -1000000001;
    static final int FULL = -1000000002;
    static final int KIND = -1000000003;
    static final int NONE = -1000000004;
    static final int STATE = -1000000005;
    static final int MISSING = -1000000006;
    static final int SIZE = -1000000007;

    private static int asked = 0;
    private static int wrong = 0;

    private Check() {
    }

    static void due(String call, long got, long want) {
        asked++;
        if (got != want) {
            wrong++;
            System.out.println(call + " answered " + got + ", due is " + want);
        }
    }

    static void fault(String what) {
        asked++;
        wrong++;
        System.out.println(what);
    }

    /** Ends the test as .ci/run wants it. */
    static void end() {
        System.out.println(asked + " answers, " + wrong + " wrong");
        if (wrong != 0 || asked == 0) {
            System.exit(1);
        }
    }

    /** A text comes to the tape in pieces of at most four bytes. */
    static void feed(SecondHome x, String text) {
        for (int i = 0; i < text.length(); i += 4) {
            int n = Math.min(4, text.length() - i);
            int bytes = 0;
            for (int j = 0; j < n; j++) {
                bytes = bytes << 8 | text.charAt(i + j) & 255;
            }
            x.feed(bytes, n);
        }
    }

    static int text(SecondHome x, String text) {
        x.wipe();
        feed(x, text);
        return x.text();
    }

    /** All of an object's state that calls can tell without changing it, but for status(). */
    static String picture(SecondHome x) {
        StringBuilder b = new StringBuilder();
        for (int what = 0; what <= 4; what++) {
            b.append(x.now(what)).append(' ').append(x.count(what)).append(' ');
        }
        for (int r = 0; r < x.count(0); r++) {
            for (int what = 0; what <= 8; what++) {
                b.append(x.of(r, what)).append(' ');
            }
        }
        return b.toString();
    }
}
