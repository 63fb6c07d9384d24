/** Promises 34 to 39: sheets. */
public final class SheetsTest {
    private static final int B = Due.BEYOND;
    private static final Due due = new Due();

    public static void main(String[] args) {
        sheets();
        writing();
        copying();
        laying();
        booking();
        reading();
        due.end();
    }

    private static void sheets() {
        due.promise(34);
        BoltsByOrder x = new BoltsByOrder();
        due.is("sheet(0, 8, 40)", x.sheet(0, 8, 40), 40);
        due.is("sheet(3, 64, 0)", x.sheet(3, 64, 0), 0);
        due.is("sheet(1, 16, 1)", x.sheet(1, 16, 1), 1);
        due.is("sheet(2, 0, 40)", x.sheet(2, 0, 40), 0);
        due.is("sheet(-1, 8, 1)", x.sheet(-1, 8, 1), B);
        due.is("sheet(4, 8, 1)", x.sheet(4, 8, 1), B);
        for (int bits : new int[] {-8, 1, 7, 9, 32, 63, 65, Integer.MAX_VALUE}) {
            due.is("sheet(0, " + bits + ", 1)", x.sheet(0, bits, 1), B);
        }
        due.is("BEYOND ahead of SIZE", x.sheet(4, 8, -1), B);
        due.is("BEYOND ahead of SIZE", x.sheet(0, 7, -1), B);
        due.is("sheet(0, 8, -1)", x.sheet(0, 8, -1), Due.SIZE);
        due.is("sheet(0, 0, -1)", x.sheet(0, 0, -1), Due.SIZE);
        due.is("sheet(0, 64, MIN)", x.sheet(0, 64, Integer.MIN_VALUE), Due.SIZE);
        due.is("sheet(0, 8, 41)", x.sheet(0, 8, 41), B);
        due.is("sheet(0, 0, 41)", x.sheet(0, 0, 41), B);
        due.is("nothing changed", x.write(0, 39, 5L), 0);
        due.is("sheet(0, 8, 40)", x.sheet(0, 8, 40), 40);
        due.is("all are 0", x.write(0, 39, 5L), 0);
        due.is("sheet(0, 0, 3)", x.sheet(0, 0, 3), 0);
        due.is("write of none", x.write(0, 0, 5L), Due.MISSING);
        due.is("sheet(0, 64, 40)", x.sheet(0, 64, 40), 40);
        due.is("all are 0", x.write(0, 39, 5L), 0);
    }

    private static void writing() {
        due.promise(35);
        BoltsByOrder x = new BoltsByOrder();
        x.sheet(0, 8, 3);
        x.sheet(1, 16, 3);
        x.sheet(2, 64, 3);
        long v = 0x123456789ABC8182L;
        for (int s = 0; s < 3; s++) {
            due.is("write(" + s + ", 2, v)", x.write(s, 2, v), 0);
        }
        due.is("8 bits", x.write(0, 2, 127L), -126);
        due.is("16 bits", x.write(1, 2, 32767L), -32382);
        due.is("64 bits", x.write(2, 2, Long.MIN_VALUE), v);
        due.is("8 bits", x.write(0, 2, 128L), 127);
        due.is("16 bits", x.write(1, 2, 32768L), 32767);
        due.is("64 bits", x.write(2, 2, -1000000001L), Long.MIN_VALUE);
        due.is("8 bits", x.write(0, 2, 0L), -128);
        due.is("16 bits", x.write(1, 2, 0L), -32768);
        due.is("64 bits", x.write(2, 2, 0L), -1000000001L);
        due.is("that was no finding", x.status(-1), 0);
        due.is("others stay", x.write(0, 1, 0L), 0);
        due.is("write(-1, 0, 0)", x.write(-1, 0, 0L), B);
        due.is("write(4, 0, 0)", x.write(4, 0, 0L), B);
        due.is("write(3, 0, 0)", x.write(3, 0, 0L), Due.MISSING);
        due.is("MISSING ahead of BEYOND", x.write(3, -1, 0L), Due.MISSING);
        due.is("write(0, -1, 0)", x.write(0, -1, 0L), B);
        due.is("write(0, 3, 0)", x.write(0, 3, 0L), B);
    }

    private static void fill(BoltsByOrder x, int s, int n) {
        for (int i = 0; i < n; i++) {
            x.write(s, i, i + 1L);
        }
    }

    private static void has(BoltsByOrder x, int s, long... want) {
        for (int i = 0; i < want.length; i++) {
            due.is("number " + i + " of sheet " + s, x.write(s, i, want[i]), want[i]);
        }
    }

    private static void copying() {
        due.promise(36);
        BoltsByOrder x = new BoltsByOrder();
        x.sheet(0, 16, 5);
        x.sheet(1, 16, 3);
        x.sheet(2, 8, 5);
        fill(x, 0, 5);
        due.is("copy(0, 1, 1, 0, 3)", x.copy(0, 1, 1, 0, 3), 3);
        has(x, 1, 2, 3, 4);
        due.is("as they all were", x.copy(0, 0, 0, 1, 4), 4);
        has(x, 0, 1, 1, 2, 3, 4);
        due.is("as they all were", x.copy(0, 1, 0, 0, 4), 4);
        has(x, 0, 1, 2, 3, 4, 4);
        due.is("none", x.copy(0, 5, 1, 3, 0), 0);
        int[][] wrong = {{-1, 0, 0, 0, 1}, {4, 0, 0, 0, 1}, {0, 0, -1, 0, 1}, {0, 0, 4, 0, 1}, {3, 0, 4, 0, 1},
            {0, -1, 1, 0, 1}, {0, 0, 1, -1, 1}, {0, 0, 1, 0, -1}, {0, 0, 1, 0, 4}, {0, 3, 1, 0, 3}, {0, 0, 1, 1, 3},
            {0, 6, 1, 0, 0}, {0, 0, 1, 4, 0}, {0, Integer.MAX_VALUE, 1, 0, 2}, {0, 0, 1, Integer.MAX_VALUE, 2},
            {0, 2, 1, 0, Integer.MAX_VALUE}, {0, Integer.MIN_VALUE, 1, 0, 1}, {0, 0, 1, 0, Integer.MIN_VALUE}};
        for (int[] w : wrong) {
            due.is("copy(" + w[0] + ", " + w[1] + ", " + w[2] + ", " + w[3] + ", " + w[4] + ")",
                x.copy(w[0], w[1], w[2], w[3], w[4]), B);
        }
        due.is("MISSING", x.copy(3, 0, 0, 0, 1), Due.MISSING);
        due.is("MISSING", x.copy(0, 0, 3, 0, 1), Due.MISSING);
        due.is("MISSING ahead of BEYOND", x.copy(3, -1, 0, 0, 1), Due.MISSING);
        due.is("KIND", x.copy(0, 0, 2, 0, 1), Due.KIND);
        due.is("KIND ahead of BEYOND", x.copy(0, 0, 2, 0, 99), Due.KIND);
        has(x, 0, 1, 2, 3, 4, 4);
        has(x, 1, 2, 3, 4);
    }

    private static void laying() {
        due.promise(37);
        BoltsByOrder x = new BoltsByOrder();
        for (int i = 0; i < 4; i++) {
            x.rod(0, i);
        }
        x.sheet(0, 64, 6);
        long[] numbers = {60, 61, -1, 0, 5, 5};
        for (int i = 0; i < 6; i++) {
            x.write(0, i, numbers[i]);
        }
        due.is("lays(0)", x.lays(0), 2);
        int[] want = {60, 10, 10, 0};
        for (int i = 0; i < 4; i++) {
            due.is("of(" + i + ", 2)", x.of(i, 2), want[i]);
        }
        x.write(0, 1, 1L << 32 | 7);
        x.write(0, 2, 33L);
        due.is("a number that is far too great", x.lays(0), 3);
        due.is("of(1, 2)", x.of(1, 2), 10);
        due.is("of(2, 2)", x.of(2, 2), 33);
        x.sheet(1, 8, 1);
        due.is("a short sheet", x.lays(1), 1);
        due.is("of(0, 2)", x.of(0, 2), 0);
        due.is("of(2, 2)", x.of(2, 2), 33);
        due.is("lays(2)", x.lays(2), Due.MISSING);
        due.is("lays(-1)", x.lays(-1), B);
        due.is("lays(4)", x.lays(4), B);
    }

    private static BoltsByOrder busy() {
        BoltsByOrder x = new BoltsByOrder();
        x.rod(0, 0);
        x.cloud(2, 0);
        x.cloud(3, 50);
        x.cloud(4, 50);
        return x;
    }

    private static void booking() {
        due.promise(38);
        BoltsByOrder x = busy();
        x.hours(2);
        x.sheet(0, 16, 5);
        due.is("book(0, 0)", x.book(0, 0), 5);
        has(x, 0, 1, 2, 3, 4, 5);
        due.is("nothing else changes", x.now(0), 2);
        due.is("nothing else changes", x.now(3), 1);
        x.rod(0, 1);
        due.is("one that isn't struck", x.book(0, 1), 5);
        has(x, 0, 0, 0, 0, 0, 0);
        x.set(1, 2, 60);
        due.is("one that is", x.book(0, 1), 5);
        has(x, 0, 0, 1, 2, 3, 4);
        due.is("one that isn't struck any more", x.book(0, 0), 5);
        has(x, 0, 1, 1, 1, 1, 1);
        x.down(1);
        x.book(0, 0);
        x.sheet(1, 64, 0);
        due.is("a sheet of none", x.book(1, 0), 0);
        x.hours(100);
        x.hours(25);
        x.sheet(2, 8, 5);
        due.is("8 bits", x.book(2, 0), 5);
        has(x, 2, 126, 127, -128, -127, -126);
        x.sheet(2, 64, 40);
        due.is("a sheet of forty", x.book(2, 0), 40);
        due.is("the first of forty", x.write(2, 0, 0L), 126);
        due.is("the last of forty", x.write(2, 39, 0L), 165);
        due.is("book(-1, 0)", x.book(-1, 0), B);
        due.is("book(4, 0)", x.book(4, 0), B);
        due.is("book(3, 0)", x.book(3, 0), Due.MISSING);
        due.is("MISSING ahead of BEYOND", x.book(3, 9), Due.MISSING);
        due.is("book(0, 1)", x.book(0, 1), B);
        due.is("book(0, -1)", x.book(0, -1), B);
        has(x, 0, 1, 2, 3, 4, 5);
    }

    private static void reading() {
        due.promise(39);
        BoltsByOrder x = new BoltsByOrder();
        x.rod(0, 0);
        x.cloud(3, 50);
        x.cloud(4, 50);
        x.sheet(0, 16, 0);
        due.is("nothing is told", x.read(0, 0), 1600);
        x.sheet(0, 16, 1);
        due.is("BOLTS of now", x.read(0, 0), 1600);
        x.write(0, 0, 1L);
        due.is("BOLTS that aren't so now", x.read(0, 0), 0);
        x.sheet(0, 16, 2);
        x.write(0, 1, 1L);
        // A bolt at once: CHARGE 50 to 99; the rod is reached from places 0, 1 and 2.
        due.is("a bolt at once", x.read(0, 0), 150);
        x.write(0, 1, 0L);
        due.is("no bolt at once", x.read(0, 0), 1450);
        x.sheet(0, 16, 3);
        x.write(0, 2, 1L);
        // No bolt at first; then one above places 0 to 2: from 0 or 1 with less than 50 alone, none comes from the left end.
        due.is("a bolt behind an hour", x.read(0, 0), 100);
        x.cloud(2, -1);
        // To 2 from 3 with any CHARGE; to 1 from 2, to 0 from 1 and from 0 with less than 50.
        due.is("a bolt behind an hour, from the right", x.read(0, 0), 250);
        due.is("nothing changes", x.cloudOf(0), 0);
        due.is("nothing changes", x.cloudOf(1), 0);
        due.is("nothing changes", x.cloudOf(2), -1);
        x.hours(2);
        due.is("BOLTS", x.of(0, 6), 1);
        due.is("BOLTS that were", x.read(0, 0), 0);
        x.book(0, 0);
        due.holds("its own book is read", x.read(0, 0) > 0);
        due.is("read(-1, 0)", x.read(-1, 0), B);
        due.is("read(4, 0)", x.read(4, 0), B);
        due.is("read(3, 0)", x.read(3, 0), Due.MISSING);
        due.is("MISSING ahead of BEYOND", x.read(3, 9), Due.MISSING);
        due.is("read(0, 1)", x.read(0, 1), B);
        due.is("read(0, -1)", x.read(0, -1), B);
    }
}
