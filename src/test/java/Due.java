import java.util.function.LongSupplier;

/** Compares answers with those that are due, and ends a test with exit code 1 if one was not. */
final class Due {
    static final int BEYOND = -1000000001;
    static final int FULL = -1000000002;
    static final int KIND = -1000000003;
    static final int NONE = -1000000004;
    static final int STATE = -1000000005;
    static final int MISSING = -1000000006;
    static final int SIZE = -1000000007;

    private int asked = 0;
    private int wrong = 0;
    private String where = "";

    void promise(int number) {
        where = "promise " + number;
    }

    void sentence(int number, String says) {
        where = (number == Sentence.TERMS ? "Terms" : "promise " + number) + ", \"" + says + "\"";
    }

    int asked() {
        return asked;
    }

    void is(String call, long got, long want) {
        asked++;
        if (got != want) {
            wrong++;
            System.out.println(where + ": " + call + " answered " + got + ", due is " + want);
        }
    }

    void holds(String what, boolean isSo) {
        is(what, isSo ? 1 : 0, 1);
    }

    /** The act answers a finding, status() counts it once, and nothing else changes. */
    void refused(BoltsByOrder x, String call, LongSupplier act, int finding) {
        int which = BEYOND - finding;
        String before = look(x);
        int counted = x.status(which);
        int all = x.status(-1);
        is(call, act.getAsLong(), finding);
        is(call + " and then status(" + which + ")", x.status(which), counted + 1);
        is(call + " and then status(-1)", x.status(-1), all + 1);
        String after = look(x);
        holds(call + " changes nothing: " + before + " became " + after, before.equals(after));
    }

    /** The act answers as due, and no finding is counted, whatever the number is. */
    void answers(BoltsByOrder x, String call, LongSupplier act, long want) {
        int all = x.status(-1);
        is(call, act.getAsLong(), want);
        is(call + " and then status(-1)", x.status(-1), all);
    }

    /** All that can be seen of an object, but for its sheets and what is kept. */
    static String look(BoltsByOrder x) {
        StringBuilder seen = new StringBuilder();
        for (int what = 0; what < 5; what++) {
            seen.append(x.cloudOf(what)).append(' ');
        }
        for (int what = 0; what < 4; what++) {
            seen.append(x.count(what)).append(' ');
        }
        for (int what : new int[] {0, 4, 5}) {
            seen.append(x.now(what)).append(' ');
        }
        int z = x.seed(0);
        x.seed(z);
        seen.append(z);
        for (int rod = 0; rod < x.count(0); rod++) {
            seen.append(';');
            for (int what = 0; what < 7; what++) {
                seen.append(x.of(rod, what)).append(' ');
            }
        }
        return seen.toString();
    }

    /** Lets hours go until it is that HOUR; ends also where hours() does not do as it should. */
    static void goTo(BoltsByOrder x, int hour) {
        for (int left = hour - x.now(0); left > 0; left -= 100) {
            x.hours(Math.min(100, left));
        }
    }

    /** Feeds a text byte by byte in the largest pieces that feed() takes. */
    static int feed(BoltsByOrder x, String text) {
        int has = x.count(1);
        for (int i = 0; i < text.length(); i += 4) {
            int n = Math.min(4, text.length() - i);
            int bytes = 0;
            for (int j = 0; j < n; j++) {
                bytes = bytes << 8 | text.charAt(i + j);
            }
            has = x.feed(bytes, n);
        }
        return has;
    }

    static int plain(BoltsByOrder x, String text) {
        x.wipe();
        feed(x, text);
        return x.plain();
    }

    void end() {
        System.out.println(asked + " answers, " + wrong + " of them not as due");
        if (wrong != 0) {
            System.exit(1);
        }
    }
}
