/** Boundary cases of promises 34 to 39: sheets, books, the reader. */
public final class EdgesSheetsTest {
    private static final int LEAST = Integer.MIN_VALUE;
    private static final int MOST = Integer.MAX_VALUE;

    public static void main(String[] args) throws Exception {
        Edges.run(34, 39, EdgesSheetsTest.class);
    }

    private static BoltsByOrder withSheet(int s, int bits, long... numbers) {
        BoltsByOrder x = new BoltsByOrder();
        lay(x, s, bits, numbers);
        return x;
    }

    private static void lay(BoltsByOrder x, int s, int bits, long... numbers) {
        x.sheet(s, bits, numbers.length);
        for (int i = 0; i < numbers.length; i++) {
            x.write(s, i, numbers[i]);
        }
    }

    /** Each number is written over by itself. */
    private static void has(Due due, BoltsByOrder x, int s, long... want) {
        for (int i = 0; i < want.length; i++) {
            due.is("number " + i + " of sheet " + s, x.write(s, i, want[i]), want[i]);
        }
        due.is("no number " + want.length + " of sheet " + s, x.write(s, want.length, 0L), Due.BEYOND);
    }

    /** A COPPER, which is struck wherever the cloud is, and a bolt in each hour. */
    private static void strikeInEachHour(BoltsByOrder x) {
        x.rod(1, 0);
        x.cloud(1, 50);
        x.cloud(3, 50);
        x.cloud(4, 20);
    }

    // ---- sheet

    @Sentence(of = 34, says = "A sheet has n numbers, all 0, of 8, 16 or 64 bits")
    static void aSheetHas0To40Numbers(Due due) {
        for (int bits : new int[] {8, 16, 64}) {
            for (int n : new int[] {0, 1, 39, 40}) {
                BoltsByOrder x = new BoltsByOrder();
                due.is("sheet(3, " + bits + ", " + n + ")", x.sheet(3, bits, n), n);
                has(due, x, 3, new long[n]);
            }
        }
    }

    @Sentence(of = 34, says = "A sheet has n numbers, all 0, of 8, 16 or 64 bits")
    static void aSheetThatIsLaidAgainIsAll0(Due due) {
        BoltsByOrder x = withSheet(0, 64, 1, 2, 3);
        due.is("sheet(0, 64, 3)", x.sheet(0, 64, 3), 3);
        has(due, x, 0, 0, 0, 0);
        lay(x, 0, 64, 1, 2, 3);
        due.is("sheet(0, 64, 1), fewer", x.sheet(0, 64, 1), 1);
        has(due, x, 0, 0);
        due.is("sheet(0, 64, 3), more", x.sheet(0, 64, 3), 3);
        has(due, x, 0, 0, 0, 0);
        lay(x, 0, 64, 1, 2, 3);
        x.sheet(0, 0, 0);
        due.is("sheet(0, 8, 3), behind MISSING", x.sheet(0, 8, 3), 3);
        has(due, x, 0, 0, 0, 0);
    }

    @Sentence(of = 34, says = "bits 0: it is MISSING: n (0 if it is MISSING).")
    static void aSheetOf0BitsIsMissing(Due due) {
        for (int n : new int[] {0, 1, 40}) {
            BoltsByOrder x = withSheet(0, 8, 1, 2);
            due.answers(x, "sheet(0, 0, " + n + ")", () -> x.sheet(0, 0, n), 0);
            due.is("write(0, 0, 1)", x.write(0, 0, 1L), Due.MISSING);
            due.is("sheet(1, 0, " + n + ") of one that was MISSING", x.sheet(1, 0, n), 0);
        }
    }

    @Sentence(of = 34, says = "bits 0: it is MISSING: n (0 if it is MISSING).")
    static void aSheetOfNoNumbersIsNotMissing(Due due) {
        BoltsByOrder x = new BoltsByOrder();
        x.rod(0, 0);
        due.is("sheet(0, 16, 0)", x.sheet(0, 16, 0), 0);
        due.is("lays(0)", x.lays(0), 0);
        due.is("write(0, 0, 0)", x.write(0, 0, 0L), Due.BEYOND);
        due.is("copy(0, 0, 0, 0, 0)", x.copy(0, 0, 0, 0, 0), 0);
        due.is("book(0, 0)", x.book(0, 0), 0);
        due.is("read(0, 0)", x.read(0, 0), 1600);
    }

    @Sentence(of = 34, says = "BEYOND: no such sheet, other bits.")
    static void noSuchSheetOrOtherBitsAreRefused(Due due) {
        BoltsByOrder x = new BoltsByOrder();
        for (int s : new int[] {LEAST, -1, 4, MOST}) {
            due.refused(x, "sheet(" + s + ", 8, 1)", () -> x.sheet(s, 8, 1), Due.BEYOND);
            due.refused(x, "sheet(" + s + ", 0, -1)", () -> x.sheet(s, 0, -1), Due.BEYOND);
        }
        BoltsByOrder y = withSheet(0, 8, 5);
        for (int bits : new int[] {LEAST, -8, -1, 1, 7, 9, 15, 17, 32, 63, 65, 128, MOST}) {
            due.is("sheet(0, " + bits + ", 1)", y.sheet(0, bits, 1), Due.BEYOND);
            due.is("sheet(0, " + bits + ", -1)", y.sheet(0, bits, -1), Due.BEYOND);
        }
        has(due, y, 0, 5);
    }

    @Sentence(of = 34, says = "SIZE: n is below 0 (also with bits 0).")
    static void aSheetOfLessThanNoneIsRefused(Due due) {
        for (int bits : new int[] {0, 8, 16, 64}) {
            for (int n : new int[] {-1, LEAST}) {
                BoltsByOrder x = withSheet(0, 8, 5);
                due.refused(x, "sheet(0, " + bits + ", " + n + ")", () -> x.sheet(0, bits, n), Due.SIZE);
                has(due, x, 0, 5);
            }
        }
    }

    @Sentence(of = 34, says = "BEYOND: n is above 40 (also with bits 0).")
    static void aSheetOfMoreThan40IsRefused(Due due) {
        for (int bits : new int[] {0, 8, 16, 64}) {
            for (int n : new int[] {41, MOST}) {
                BoltsByOrder x = withSheet(0, 8, 5);
                due.refused(x, "sheet(0, " + bits + ", " + n + ")", () -> x.sheet(0, bits, n), Due.BEYOND);
                has(due, x, 0, 5);
            }
        }
    }

    // ---- write

    private static void keeps(Due due, int bits, long v, long kept) {
        BoltsByOrder x = new BoltsByOrder();
        x.sheet(0, bits, 1);
        due.answers(x, "write(0, 0, " + v + ") of " + bits + " bits", () -> x.write(0, 0, v), 0);
        due.answers(x, "what it was, " + v + " of " + bits + " bits", () -> x.write(0, 0, 0L), kept);
    }

    @Sentence(of = 35, says = "Number i of a sheet becomes v (its lowest bits): what it was.")
    static void numbersOf8BitsWrapAround(Due due) {
        long[][] rows = {{0, 0}, {127, 127}, {128, -128}, {255, -1}, {256, 0}, {257, 1}, {-1, -1}, {-128, -128}, {-129, 127},
            {Long.MAX_VALUE, -1}, {Long.MIN_VALUE, 0}};
        for (long[] row : rows) {
            keeps(due, 8, row[0], row[1]);
        }
    }

    @Sentence(of = 35, says = "Number i of a sheet becomes v (its lowest bits): what it was.")
    static void numbersOf16BitsWrapAround(Due due) {
        long[][] rows = {{0, 0}, {255, 255}, {256, 256}, {32767, 32767}, {32768, -32768}, {65535, -1}, {65536, 0}, {-32768, -32768},
            {-32769, 32767}, {Long.MAX_VALUE, -1}, {Long.MIN_VALUE, 0}};
        for (long[] row : rows) {
            keeps(due, 16, row[0], row[1]);
        }
    }

    @Sentence(of = 35, says = "Number i of a sheet becomes v (its lowest bits): what it was.")
    static void numbersOf64BitsAreAsTheyAre(Due due) {
        long[] numbers = {0, -1, 65536, MOST, LEAST, 4294967296L, Long.MAX_VALUE, Long.MIN_VALUE, Due.BEYOND, Due.SIZE};
        for (long v : numbers) {
            keeps(due, 64, v, v);
        }
    }

    @Sentence(of = 35, says = "Number i of a sheet becomes v (its lowest bits): what it was.")
    static void theFirstAndTheLastNumber(Due due) {
        BoltsByOrder x = new BoltsByOrder();
        x.sheet(3, 64, 40);
        due.is("write(3, 0, 5)", x.write(3, 0, 5L), 0);
        due.is("write(3, 39, 6)", x.write(3, 39, 6L), 0);
        due.is("write(3, 0, 0)", x.write(3, 0, 0L), 5);
        due.is("write(3, 1, 0)", x.write(3, 1, 0L), 0);
        due.is("write(3, 38, 0)", x.write(3, 38, 0L), 0);
        due.is("write(3, 39, 0)", x.write(3, 39, 0L), 6);
    }

    @Sentence(of = 35, says = "BEYOND: no such sheet.")
    static void writeOnNoSuchSheetIsRefused(Due due) {
        BoltsByOrder x = withSheet(0, 8, 5);
        for (int s : new int[] {LEAST, -1, 4, MOST}) {
            due.refused(x, "write(" + s + ", 0, 1)", () -> x.write(s, 0, 1L), Due.BEYOND);
        }
    }

    @Sentence(of = 35, says = "MISSING.")
    static void writeOnAMissingSheetIsRefused(Due due) {
        BoltsByOrder x = withSheet(0, 8, 5);
        x.sheet(0, 0, 1);
        for (int s = 0; s < 4; s++) {
            int asked = s;
            due.refused(x, "write(" + s + ", 0, 1)", () -> x.write(asked, 0, 1L), Due.MISSING);
            due.refused(x, "write(" + s + ", -1, 1)", () -> x.write(asked, -1, 1L), Due.MISSING);
        }
    }

    @Sentence(of = 35, says = "BEYOND: no such number.")
    static void writeOfNoSuchNumberIsRefused(Due due) {
        BoltsByOrder x = withSheet(0, 8, 5, 6);
        for (int i : new int[] {LEAST, -1, 2, 39, 40, MOST}) {
            due.refused(x, "write(0, " + i + ", 1)", () -> x.write(0, i, 1L), Due.BEYOND);
        }
        has(due, x, 0, 5, 6);
    }

    // ---- copy

    @Sentence(of = 36, says = "n numbers of a sheet from one on come to another one from one on")
    static void noneOneOrAllAreCopied(Due due) {
        BoltsByOrder x = withSheet(0, 8, 1, 2, 3);
        lay(x, 1, 8, 7, 8, 9);
        due.answers(x, "copy(0, 0, 1, 0, 0)", () -> x.copy(0, 0, 1, 0, 0), 0);
        due.answers(x, "copy(0, 3, 1, 3, 0), behind the last", () -> x.copy(0, 3, 1, 3, 0), 0);
        has(due, x, 1, 7, 8, 9);
        due.is("copy(0, 2, 1, 0, 1)", x.copy(0, 2, 1, 0, 1), 1);
        has(due, x, 1, 3, 8, 9);
        due.is("copy(0, 0, 1, 2, 1)", x.copy(0, 0, 1, 2, 1), 1);
        has(due, x, 1, 3, 8, 1);
        due.is("copy(0, 0, 1, 0, 3)", x.copy(0, 0, 1, 0, 3), 3);
        has(due, x, 1, 1, 2, 3);
        has(due, x, 0, 1, 2, 3);
    }

    @Sentence(of = 36, says = "n numbers of a sheet from one on come to another one from one on")
    static void all40AreCopied(Due due) {
        BoltsByOrder x = new BoltsByOrder();
        x.sheet(0, 64, 40);
        x.sheet(3, 64, 40);
        x.write(0, 0, Long.MIN_VALUE);
        x.write(0, 39, Long.MAX_VALUE);
        due.is("copy(0, 0, 3, 0, 40)", x.copy(0, 0, 3, 0, 40), 40);
        due.is("write(3, 0, 0)", x.write(3, 0, 0L), Long.MIN_VALUE);
        due.is("write(3, 39, 0)", x.write(3, 39, 0L), Long.MAX_VALUE);
    }

    @Sentence(of = 36, says = "(as they all were): n.")
    static void numbersThatOverlapAreCopiedAsTheyWere(Due due) {
        BoltsByOrder x = withSheet(0, 16, 1, 2, 3, 4, 5);
        due.is("copy(0, 0, 0, 1, 4)", x.copy(0, 0, 0, 1, 4), 4);
        has(due, x, 0, 1, 1, 2, 3, 4);
        BoltsByOrder y = withSheet(0, 16, 1, 2, 3, 4, 5);
        due.is("copy(0, 1, 0, 0, 4)", y.copy(0, 1, 0, 0, 4), 4);
        has(due, y, 0, 2, 3, 4, 5, 5);
        due.is("copy(0, 0, 0, 0, 5)", y.copy(0, 0, 0, 0, 5), 5);
        has(due, y, 0, 2, 3, 4, 5, 5);
    }

    @Sentence(of = 36, says = "BEYOND: no such sheet (either).")
    static void copyOfNoSuchSheetIsRefused(Due due) {
        BoltsByOrder x = withSheet(0, 8, 5);
        for (int s : new int[] {LEAST, -1, 4, MOST}) {
            due.refused(x, "copy(" + s + ", 0, 0, 0, 1)", () -> x.copy(s, 0, 0, 0, 1), Due.BEYOND);
            due.refused(x, "copy(0, 0, " + s + ", 0, 1)", () -> x.copy(0, 0, s, 0, 1), Due.BEYOND);
            due.refused(x, "copy(1, 0, " + s + ", 0, 1), and one is MISSING", () -> x.copy(1, 0, s, 0, 1), Due.BEYOND);
        }
    }

    @Sentence(of = 36, says = "MISSING: one is.")
    static void copyOfAMissingSheetIsRefused(Due due) {
        BoltsByOrder x = withSheet(0, 8, 5);
        due.refused(x, "copy(0, 0, 3, 0, 1)", () -> x.copy(0, 0, 3, 0, 1), Due.MISSING);
        due.refused(x, "copy(3, 0, 0, 0, 1)", () -> x.copy(3, 0, 0, 0, 1), Due.MISSING);
        due.refused(x, "copy(3, 0, 3, 0, 0)", () -> x.copy(3, 0, 3, 0, 0), Due.MISSING);
        due.refused(x, "copy(0, -1, 3, 0, 1)", () -> x.copy(0, -1, 3, 0, 1), Due.MISSING);
    }

    @Sentence(of = 36, says = "KIND: they are not of as many bits.")
    static void copyToOtherBitsIsRefused(Due due) {
        int[][] rows = {{8, 16}, {8, 64}, {16, 8}, {16, 64}, {64, 8}, {64, 16}};
        for (int[] row : rows) {
            BoltsByOrder x = withSheet(0, row[0], 5);
            lay(x, 1, row[1], 6);
            due.refused(x, row[0] + " to " + row[1] + " bits", () -> x.copy(0, 0, 1, 0, 1), Due.KIND);
            due.refused(x, row[0] + " to " + row[1] + " bits, no number", () -> x.copy(0, 0, 1, 0, 0), Due.KIND);
            due.refused(x, row[0] + " to " + row[1] + " bits, too many", () -> x.copy(0, 0, 1, 0, 2), Due.KIND);
            has(due, x, 1, 6);
        }
    }

    @Sentence(of = 36, says = "BEYOND: one has not so many, or from, to or n is below 0.")
    static void copyOfMoreThanThereAreIsRefused(Due due) {
        // from, to, n: sheet 0 has three, sheet 1 has two
        int[][] rows = {{0, 0, 3}, {0, 1, 2}, {2, 0, 2}, {3, 0, 1}, {0, 2, 1}, {4, 0, 0}, {0, 3, 0}, {-1, 0, 1}, {0, -1, 1},
            {0, 0, -1}, {-1, 0, 0}, {0, -1, 0}, {1, 1, -1}, {0, 0, MOST}, {MOST, 0, 1}, {0, MOST, 1}, {MOST, 0, MOST}, {1, 0, MOST},
            {0, 1, MOST}, {LEAST, 0, 1}, {0, LEAST, 1}, {0, 0, LEAST}, {MOST, 0, 0}, {LEAST, 0, LEAST}, {LEAST, LEAST, MOST}};
        for (int[] row : rows) {
            BoltsByOrder x = withSheet(0, 8, 1, 2, 3);
            lay(x, 1, 8, 8, 9);
            String call = "copy(0, " + row[0] + ", 1, " + row[1] + ", " + row[2] + ")";
            due.refused(x, call, () -> x.copy(0, row[0], 1, row[1], row[2]), Due.BEYOND);
            has(due, x, 1, 8, 9);
        }
    }

    // ---- lays

    private static BoltsByOrder withRods(int rods) {
        BoltsByOrder x = new BoltsByOrder();
        for (int i = 0; i < rods; i++) {
            x.rod(0, 0);
        }
        return x;
    }

    private static void setHeights(BoltsByOrder x, int... heights) {
        for (int i = 0; i < heights.length; i++) {
            x.set(i, 2, heights[i]);
        }
    }

    @Sentence(of = 37, says = "those that aren't 0 to 60")
    static void heightsThatMayNotBeAreLeftOut(Due due) {
        BoltsByOrder x = withRods(8);
        lay(x, 0, 64, -1, 0, 60, 61, 4294967296L + 5, Long.MIN_VALUE, Long.MAX_VALUE, 59);
        due.answers(x, "lays(0)", () -> x.lays(0), 3);
        int[] heights = {10, 0, 60, 10, 10, 10, 10, 59};
        for (int i = 0; i < 8; i++) {
            due.is("HEIGHT of ROD " + i, x.of(i, 2), heights[i]);
        }
    }

    @Sentence(of = 37, says = "those that aren't 0 to 60")
    static void heightsAreTheLowestBits(Due due) {
        BoltsByOrder x = withRods(3);
        lay(x, 0, 8, 256 + 7, 200, 128);
        due.is("lays(0): 7, and two that are above 60 or below 0", x.lays(0), 1);
        due.is("HEIGHT of ROD 0", x.of(0, 2), 7);
        due.is("HEIGHT of ROD 1", x.of(1, 2), 10);
        due.is("HEIGHT of ROD 2", x.of(2, 2), 10);
    }

    @Sentence(of = 37, says = "or stand for none, are left out): how many came.")
    static void numbersThatStandForNoRodAreLeftOut(Due due) {
        BoltsByOrder x = withRods(0);
        lay(x, 0, 8, 1, 2, 3);
        due.is("lays(0), no RODS", x.lays(0), 0);
        x.rod(0, 0);
        x.rod(0, 0);
        due.is("lays(0), two RODS", x.lays(0), 2);
        due.is("HEIGHT of ROD 1", x.of(1, 2), 2);
        x.rod(0, 0);
        x.rod(0, 0);
        due.is("lays(0), four RODS", x.lays(0), 3);
        due.is("HEIGHT of ROD 3, for which no number stands", x.of(3, 2), 10);
        x.sheet(1, 8, 40);
        due.is("lays(1) of 40", x.lays(1), 4);
        due.is("count(2)", x.count(2), 0);
    }

    @Sentence(of = 37, says = "BEYOND: no such sheet.")
    static void laysOfNoSuchSheetIsRefused(Due due) {
        BoltsByOrder x = withRods(1);
        for (int s : new int[] {LEAST, -1, 4, MOST}) {
            due.refused(x, "lays(" + s + ")", () -> x.lays(s), Due.BEYOND);
        }
    }

    @Sentence(of = 37, says = "MISSING.")
    static void laysOfAMissingSheetIsRefused(Due due) {
        BoltsByOrder x = withRods(1);
        for (int s = 0; s < 4; s++) {
            int asked = s;
            due.refused(x, "lays(" + s + ")", () -> x.lays(asked), Due.MISSING);
        }
    }

    // ---- book

    @Sentence(of = 38, says = "A book: BOLTS of a ROD ON 0, 1, 2, .. HOURS come to a sheet, as many as it has numbers: how many.")
    static void aBookOfNoneOneOr40(Due due) {
        BoltsByOrder x = new BoltsByOrder();
        strikeInEachHour(x);
        x.hours(3);
        x.sheet(0, 16, 0);
        due.is("book(0, 0) of none", x.book(0, 0), 0);
        x.sheet(0, 16, 1);
        due.is("book(0, 0) of one", x.book(0, 0), 1);
        has(due, x, 0, 3);
        x.sheet(0, 16, 40);
        due.is("book(0, 0) of 40", x.book(0, 0), 40);
        long[] want = new long[40];
        for (int i = 0; i < 40; i++) {
            want[i] = 3 + i;
        }
        has(due, x, 0, want);
        due.is("now(0)", x.now(0), 3);
        due.is("of(0, 6)", x.of(0, 6), 3);
    }

    @Sentence(of = 38, says = "A book: BOLTS of a ROD ON 0, 1, 2, .. HOURS come to a sheet, as many as it has numbers: how many.")
    static void aBookHasTheLowestBits(Due due) {
        BoltsByOrder x = new BoltsByOrder();
        strikeInEachHour(x);
        Due.goTo(x, 126);
        x.sheet(0, 8, 3);
        x.sheet(1, 16, 3);
        due.is("book(0, 0)", x.book(0, 0), 3);
        due.is("book(1, 0)", x.book(1, 0), 3);
        has(due, x, 0, 126, 127, -128);
        has(due, x, 1, 126, 127, 128);
        Due.goTo(x, 255);
        x.book(0, 0);
        has(due, x, 0, -1, 0, 1);
    }

    @Sentence(of = 38, says = "A book: BOLTS of a ROD ON 0, 1, 2, .. HOURS come to a sheet, as many as it has numbers: how many.")
    static void boltsThatStrikeAnotherOrNoneAreNotBooked(Due due) {
        BoltsByOrder x = withRods(8);
        setHeights(x, 0, 0, 0, 0, 0, 0, 5, 9);
        x.cloud(0, 1);
        x.cloud(1, 50);
        x.cloud(2, -1);
        x.cloud(3, 50);
        x.cloud(4, 20);
        x.sheet(0, 8, 5);
        due.is("book(0, 7)", x.book(0, 7), 5);
        has(due, x, 0, 0, 1, 2, 3, 4);
        due.is("book(0, 0), which DRAWS nothing", x.book(0, 0), 5);
        has(due, x, 0, 0, 0, 0, 0, 0);
        x.set(7, 1, 2);
        due.is("book(0, 6): PLACES 1, 0, 0, 1", x.book(0, 6), 5);
        has(due, x, 0, 0, 0, 1, 2, 2);
        due.is("book(0, 7)", x.book(0, 7), 5);
        has(due, x, 0, 0, 1, 1, 1, 2);
    }

    @Sentence(of = 38, says = "BEYOND: no such sheet.")
    static void bookOnNoSuchSheetIsRefused(Due due) {
        BoltsByOrder x = withRods(1);
        for (int s : new int[] {LEAST, -1, 4, MOST}) {
            due.refused(x, "book(" + s + ", 0)", () -> x.book(s, 0), Due.BEYOND);
        }
    }

    @Sentence(of = 38, says = "MISSING.")
    static void bookOnAMissingSheetIsRefused(Due due) {
        BoltsByOrder x = withRods(1);
        due.refused(x, "book(3, 0)", () -> x.book(3, 0), Due.MISSING);
        due.refused(x, "book(3, 1), no such ROD", () -> x.book(3, 1), Due.MISSING);
    }

    @Sentence(of = 38, says = "BEYOND: rod.")
    static void bookOfNoSuchRodIsRefused(Due due) {
        BoltsByOrder x = withRods(1);
        lay(x, 0, 8, 5, 6);
        for (int rod : new int[] {LEAST, -1, 1, 8, MOST}) {
            due.refused(x, "book(0, " + rod + ")", () -> x.book(0, rod), Due.BEYOND);
        }
        has(due, x, 0, 5, 6);
    }

    // ---- read

    private static int readBy(int breaks, int grows, long... numbers) {
        BoltsByOrder x = new BoltsByOrder();
        x.rod(1, 0);
        x.cloud(3, grows);
        x.cloud(4, breaks);
        lay(x, 0, 64, numbers);
        return x.read(0, 0);
    }

    @Sentence(of = 39, says = "how many pairs of a CHARGE (0 to 99) and a PLACE of THE CLOUD, in place of what they are, make it just so.")
    static void allPairsOrNone(Due due) {
        due.is("no numbers", readBy(60, 20), 1600);
        due.is("0", readBy(60, 20, 0), 1600);
        due.is("1", readBy(60, 20, 1), 0);
        due.is("-1", readBy(60, 20, -1), 0);
        due.is("4294967296", readBy(60, 20, 4294967296L), 0);
        due.is("0, 2", readBy(60, 20, 0, 2), 0);
        due.is("0, 1, 0", readBy(60, 20, 0, 1, 0), 0);
        due.is("40 times 0, without growing", readBy(60, 0, new long[40]), 960);
    }

    @Sentence(of = 39, says = "how many pairs of a CHARGE (0 to 99) and a PLACE of THE CLOUD, in place of what they are, make it just so.")
    static void theLeastAndTheGreatestCharge(Due due) {
        due.is("0, 1 by BREAKS 99: CHARGE 99", readBy(99, 20, 0, 1), 16);
        due.is("0, 0 by BREAKS 99: CHARGE 0 to 98", readBy(99, 20, 0, 0), 99 * 16);
        due.is("0, 1 by BREAKS 20: CHARGE 20 to 99", readBy(20, 20, 0, 1), 80 * 16);
        due.is("0, 0 by BREAKS 20: CHARGE 0 to 19", readBy(20, 20, 0, 0), 20 * 16);
        due.is("0, 0, 0 by BREAKS 20, GROWS 20: none", readBy(20, 20, 0, 0, 0), 0);
        due.is("0, 0, 0 by BREAKS 20, GROWS 19: CHARGE 0", readBy(20, 19, 0, 0, 0), 16);
    }

    @Sentence(of = 39, says = "how many pairs of a CHARGE (0 to 99) and a PLACE of THE CLOUD, in place of what they are, make it just so.")
    static void theFirstAndTheLastPlace(Due due) {
        for (int place : new int[] {0, 15}) {
            BoltsByOrder x = new BoltsByOrder();
            x.rod(0, place);
            x.set(0, 2, 4);
            x.cloud(0, 7);
            x.cloud(1, 3);
            lay(x, 0, 8, 0, 1);
            String before = Due.look(x);
            due.is("read(0, 0): PLACE " + place + ", CHARGE 60 to 99", x.read(0, 0), 40);
            due.holds("nothing changes", before.equals(Due.look(x)));
            has(due, x, 0, 0, 1);
        }
    }

    @Sentence(of = 39, says = "how many pairs of a CHARGE (0 to 99) and a PLACE of THE CLOUD, in place of what they are, make it just so.")
    static void driftIsAsItIsForEachPair(Due due) {
        // By DRIFT -1 the cloud is above 0 in the third hour if it was above 1 (by way of 0 and 0) or 2, by 1 it never is.
        int[][] rows = {{-1, 2}, {0, 1}, {1, 0}};
        for (int[] row : rows) {
            BoltsByOrder x = new BoltsByOrder();
            x.rod(0, 0);
            x.set(0, 2, 4);
            x.cloud(2, row[0]);
            x.cloud(3, 1);
            x.cloud(4, 99);
            lay(x, 0, 8, 0, 0, 0, 1);
            due.is("read(0, 0) by DRIFT " + row[0] + ": CHARGE 97 alone", x.read(0, 0), row[1]);
        }
    }

    @Sentence(of = 39, says = "BEYOND: no such sheet.")
    static void readOfNoSuchSheetIsRefused(Due due) {
        BoltsByOrder x = withRods(1);
        for (int s : new int[] {LEAST, -1, 4, MOST}) {
            due.refused(x, "read(" + s + ", 0)", () -> x.read(s, 0), Due.BEYOND);
        }
    }

    @Sentence(of = 39, says = "MISSING.")
    static void readOfAMissingSheetIsRefused(Due due) {
        BoltsByOrder x = withRods(1);
        due.refused(x, "read(3, 0)", () -> x.read(3, 0), Due.MISSING);
        due.refused(x, "read(3, 1), no such ROD", () -> x.read(3, 1), Due.MISSING);
    }

    @Sentence(of = 39, says = "BEYOND: rod.")
    static void readOfNoSuchRodIsRefused(Due due) {
        BoltsByOrder x = withRods(1);
        x.sheet(0, 8, 0);
        for (int rod : new int[] {LEAST, -1, 1, 8, MOST}) {
            due.refused(x, "read(0, " + rod + ")", () -> x.read(0, rod), Due.BEYOND);
        }
    }
}
