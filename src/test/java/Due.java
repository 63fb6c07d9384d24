/** Compares answers with those that are due, and ends a test with exit code 1 if one was not. */
final class Due {
    static final int BEYOND = -1000000001;
    static final int FULL = -1000000002;
    static final int KIND = -1000000003;
    static final int NONE = -1000000004;
    static final int STATE = -1000000005;
    static final int MISSING = -1000000006;
    static final int SIZE = -1000000007;

    private int asked = 0;
    private int wrong = 0;
    private int promise = 0;

    void promise(int number) {
        promise = number;
    }

    void is(String call, long got, long want) {
        asked++;
        if (got != want) {
            wrong++;
            System.out.println("promise " + promise + ": " + call + " answered " + got + ", due is " + want);
        }
    }

    void holds(String what, boolean isSo) {
        is(what, isSo ? 1 : 0, 1);
    }

    /** Feeds a text byte by byte in the largest pieces that feed() takes. */
    static int feed(BoltsByOrder x, String text) {
        int has = x.count(1);
        for (int i = 0; i < text.length(); i += 4) {
            int n = Math.min(4, text.length() - i);
            int bytes = 0;
            for (int j = 0; j < n; j++) {
                bytes = bytes << 8 | text.charAt(i + j);
            }
            has = x.feed(bytes, n);
        }
        return has;
    }

    static int plain(BoltsByOrder x, String text) {
        x.wipe();
        feed(x, text);
        return x.plain();
    }

    void end() {
        System.out.println(asked + " answers, " + wrong + " of them not as due");
        if (wrong != 0) {
            System.exit(1);
        }
    }
}
