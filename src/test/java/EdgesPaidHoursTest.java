/** Boundary cases of promises 25 to 30: hours to be paid for, strays, forks. */
public final class EdgesPaidHoursTest {
    private static final int LEAST = Integer.MIN_VALUE;
    private static final int MOST = Integer.MAX_VALUE;
    private static final int ALL_24 = 16777215;

    public static void main(String[] args) throws Exception {
        Edges.run(25, 30, EdgesPaidHoursTest.class);
    }

    /** One in PLACE 0 under a cloud that stays there: a bolt in the hour that goes next, and each so many hours. */
    private static BoltsByOrder struckEach(int hours, int firstHour) {
        BoltsByOrder x = new BoltsByOrder();
        Due.goTo(x, firstHour);
        x.rod(0, 0);
        x.cloud(0, 0);
        x.cloud(1, 60);
        x.cloud(2, 0);
        x.cloud(3, hours == 1 ? 50 : 60 / hours);
        x.cloud(4, hours == 1 ? 50 : 60);
        return x;
    }

    private static BoltsByOrder struckInTheLastOf100() {
        BoltsByOrder x = struckEach(1, 0);
        x.cloud(1, 0);
        x.cloud(3, 1);
        x.cloud(4, 99);
        return x;
    }

    // ---- clocks

    @Sentence(of = 25, says = "CLOCKS of BOLTS that strike a ROD ON n HOURS (0 to 100)")
    static void theLastOf100HoursCounts(Due due) {
        BoltsByOrder x = struckInTheLastOf100();
        due.is("clocks(0, 0)", x.clocks(0, 0), 0);
        due.is("clocks(0, 99)", x.clocks(0, 99), 0);
        due.is("clocks(0, 100): 99 is 3 by the CLOCK", x.clocks(0, 100), 8);
    }

    @Sentence(of = 25, says = "CLOCKS of BOLTS that strike a ROD ON n HOURS (0 to 100)")
    static void boltsThatStrikeAnotherOrNoneAreLeftOut(Due due) {
        BoltsByOrder x = struckEach(1, 0);
        x.rod(0, 0);
        due.is("clocks(1, 100)", x.clocks(1, 100), 0);
        x.set(0, 2, 0);
        due.is("clocks(0, 100)", x.clocks(0, 100), 0);
        due.is("clocks(1, 100)", x.clocks(1, 100), ALL_24);
    }

    @Sentence(of = 25, says = "as a set of 24.")
    static void noClockOneOrAll24(Due due) {
        BoltsByOrder x = struckEach(1, 0);
        due.is("clocks(0, 1)", x.clocks(0, 1), 1);
        due.is("clocks(0, 23)", x.clocks(0, 23), ALL_24 - 8388608);
        due.is("clocks(0, 24)", x.clocks(0, 24), ALL_24);
        due.is("clocks(0, 25)", x.clocks(0, 25), ALL_24);
        due.is("clocks(0, 100)", x.clocks(0, 100), ALL_24);
    }

    @Sentence(of = 25, says = "as a set of 24.")
    static void theClockGoesRound(Due due) {
        BoltsByOrder x = struckEach(1, 23);
        due.is("clocks(0, 1)", x.clocks(0, 1), 8388608);
        due.is("clocks(0, 2)", x.clocks(0, 2), 8388609);
        BoltsByOrder y = struckEach(1, 9999);
        due.is("clocks(0, 9) in HOUR 9999: 15 to 23", y.clocks(0, 9), ALL_24 - 32767);
        due.is("clocks(0, 10): and 0", y.clocks(0, 10), ALL_24 - 32766);
    }

    @Sentence(of = 25, says = "BEYOND.")
    static void clocksOfNoSuchRodOrNumberIsRefused(Due due) {
        int[][] rows = {{-1, 1}, {1, 1}, {LEAST, 1}, {MOST, 1}, {0, -1}, {0, 101}, {0, LEAST}, {0, MOST}};
        for (int[] row : rows) {
            BoltsByOrder x = struckEach(1, 0);
            due.refused(x, "clocks(" + row[0] + ", " + row[1] + ")", () -> x.clocks(row[0], row[1]), Due.BEYOND);
        }
    }

    // ---- covers, from

    @Sentence(of = 26, says = "The fewest PAID hours, in one row, round, by which all of these are PAID.")
    static void noneOneOrAll24(Due due) {
        BoltsByOrder x = struckEach(1, 0);
        due.is("covers(0, 0)", x.covers(0, 0), 0);
        due.is("covers(0, 1)", x.covers(0, 1), 1);
        due.is("covers(0, 23)", x.covers(0, 23), 23);
        due.is("covers(0, 24)", x.covers(0, 24), 24);
        due.is("covers(0, 100)", x.covers(0, 100), 24);
        x.set(0, 2, 0);
        due.is("covers(0, 100), never struck", x.covers(0, 100), 0);
    }

    @Sentence(of = 26, says = "The fewest PAID hours, in one row, round, by which all of these are PAID.")
    static void theRowGoesRound(Due due) {
        BoltsByOrder x = struckEach(1, 23);
        due.is("covers(0, 2): 23 and 0", x.covers(0, 2), 2);
        due.is("covers(0, 23): all but 22", x.covers(0, 23), 23);
        BoltsByOrder y = struckEach(3, 22);
        due.is("covers(0, 4): 22 and 1", y.covers(0, 4), 4);
        due.is("covers(0, 7): and 4", y.covers(0, 7), 7);
        due.is("covers(0, 22): each third", y.covers(0, 22), 22);
    }

    @Sentence(of = 26, says = "The fewest PAID hours, in one row, round, by which all of these are PAID.")
    static void thePaidHoursAreEnough(Due due) {
        for (int first = 0; first < 48; first += 5) {
            BoltsByOrder x = struckEach(first % 2 == 0 ? 4 : 5, first);
            int from = x.from(0, 17);
            int covers = x.covers(0, 17);
            x.pays(0, from, (from + covers) % 24);
            due.is("strays(17): none from HOUR " + first, x.strays(17) - x.now(4), 0);
            x.pays(0, from, (from + covers - 1) % 24);
            due.holds("strays(17): one hour less is too few", x.strays(17) > x.now(4));
        }
    }

    @Sentence(of = 26, says = "BEYOND.")
    static void coversOfNoSuchRodOrNumberIsRefused(Due due) {
        int[][] rows = {{-1, 1}, {1, 1}, {LEAST, 1}, {MOST, 1}, {0, -1}, {0, 101}, {0, LEAST}, {0, MOST}};
        for (int[] row : rows) {
            BoltsByOrder x = struckEach(1, 0);
            due.refused(x, "covers(" + row[0] + ", " + row[1] + ")", () -> x.covers(row[0], row[1]), Due.BEYOND);
        }
    }

    @Sentence(of = 27, says = "The FROM of such ones (the least")
    static void theLeastOfSeveralFroms(Due due) {
        BoltsByOrder x = struckEach(12, 0);
        due.is("clocks(0, 13)", x.clocks(0, 13), 4097);
        due.is("from(0, 13): 0 or 12", x.from(0, 13), 0);
        BoltsByOrder y = struckEach(12, 17);
        due.is("from(0, 13): 17 or 5", y.from(0, 13), 5);
        BoltsByOrder z = struckEach(1, 7);
        due.is("from(0, 24): all are the same", z.from(0, 24), 0);
    }

    @Sentence(of = 27, says = "The FROM of such ones (the least")
    static void theFirstAndTheLastFrom(Due due) {
        BoltsByOrder x = struckEach(1, 0);
        due.is("from(0, 1)", x.from(0, 1), 0);
        due.is("from(0, 23)", x.from(0, 23), 0);
        BoltsByOrder y = struckEach(1, 23);
        due.is("from(0, 1): 23", y.from(0, 1), 23);
        due.is("from(0, 2): 23 and 0", y.from(0, 2), 23);
        due.is("from(0, 23): all but 22", y.from(0, 23), 23);
    }

    @Sentence(of = 27, says = "The FROM of such ones (the least")
    static void eachFromOf24(Due due) {
        for (int clock = 0; clock < 24; clock++) {
            BoltsByOrder x = struckEach(1, 24 + clock);
            due.is("from(0, 1) at " + clock, x.from(0, 1), clock);
            due.is("from(0, 23) at " + clock, x.from(0, 23), clock);
        }
    }

    @Sentence(of = 27, says = "0, if there are none to be covered).")
    static void noneToBeCoveredIsFrom0(Due due) {
        BoltsByOrder x = struckEach(1, 9);
        x.pays(0, 5, 8);
        due.is("from(0, 0)", x.from(0, 0), 0);
        x.set(0, 2, 0);
        due.is("from(0, 100), never struck", x.from(0, 100), 0);
        due.is("covers(0, 100)", x.covers(0, 100), 0);
        BoltsByOrder y = struckInTheLastOf100();
        due.is("from(0, 99)", y.from(0, 99), 0);
        due.is("from(0, 100)", y.from(0, 100), 3);
        due.is("covers(0, 100)", y.covers(0, 100), 1);
    }

    @Sentence(of = 27, says = "BEYOND.")
    static void fromOfNoSuchRodOrNumberIsRefused(Due due) {
        int[][] rows = {{-1, 1}, {1, 1}, {LEAST, 1}, {MOST, 1}, {0, -1}, {0, 101}, {0, LEAST}, {0, MOST}};
        for (int[] row : rows) {
            BoltsByOrder x = struckEach(1, 0);
            due.refused(x, "from(" + row[0] + ", " + row[1] + ")", () -> x.from(row[0], row[1]), Due.BEYOND);
        }
    }

    // ---- strays

    @Sentence(of = 28, says = "STRAYS ON n HOURS (0 to 100).")
    static void noHourOr100(Due due) {
        BoltsByOrder x = new BoltsByOrder();
        due.is("strays(0)", x.strays(0), 0);
        due.is("strays(3)", x.strays(3), 0);
        due.is("strays(4)", x.strays(4), 60);
        due.is("strays(99): 32 bolts of 60", x.strays(99), 1920);
        due.is("strays(100): 33 bolts of 60", x.strays(100), 1980);
        due.is("now(4)", x.now(4), 0);
        x.hours(4);
        due.is("strays(0)", x.strays(0), 60);
    }

    @Sentence(of = 28, says = "STRAYS ON n HOURS (0 to 100).")
    static void straysOnAreHeldTo99999(Due due) {
        BoltsByOrder x = new BoltsByOrder();
        x.cloud(1, 50);
        x.cloud(3, 50);
        x.cloud(4, 20);
        Due.goTo(x, 1999);
        due.is("strays(0)", x.strays(0), 99950);
        due.is("strays(1)", x.strays(1), 99999);
        due.is("strays(100)", x.strays(100), 99999);
    }

    @Sentence(of = 28, says = "BEYOND.")
    static void straysOfTooFewOrTooManyHoursAreRefused(Due due) {
        BoltsByOrder x = new BoltsByOrder();
        for (int n : new int[] {LEAST, -1, 101, MOST}) {
            due.refused(x, "strays(" + n + ")", () -> x.strays(n), Due.BEYOND);
        }
    }

    // ---- forks

    private static BoltsByOrder forked(int charge, int kind, int... heights) {
        BoltsByOrder x = new BoltsByOrder();
        x.cloud(1, charge);
        for (int height : heights) {
            int rod = x.rod(kind, 0);
            x.set(rod, 2, height);
        }
        return x;
    }

    private static void forkIs(Due due, BoltsByOrder x, int rod, int above, int below) {
        due.is("fork(" + rod + ", 0)", x.fork(rod, 0), above);
        due.is("fork(" + rod + ", 1)", x.fork(rod, 1), below);
    }

    @Sentence(of = 29, says = "its DRAW times CHARGE by all DRAWS together (0, if that is 0)")
    static void aForkOfWhatNoneDrawsIs0(Due due) {
        BoltsByOrder x = forked(99, 0, 0, 0);
        forkIs(due, x, 0, 0, 1);
        forkIs(due, x, 1, 0, 1);
        x.set(1, 2, 1);
        forkIs(due, x, 0, 0, 1);
        forkIs(due, x, 1, 99, 1);
    }

    @Sentence(of = 29, says = "a part of a fraction in lowest terms: above (part 0), below the line")
    static void theGreatestDrawsAreInLowestTerms(Due due) {
        BoltsByOrder x = forked(99, 2, 60, 60, 60, 60, 60, 60, 60, 60);
        forkIs(due, x, 0, 99, 8);
        forkIs(due, x, 7, 99, 8);
        x.cloud(1, 96);
        forkIs(due, x, 7, 12, 1);
        x.cloud(1, 1);
        forkIs(due, x, 7, 1, 8);
        x.cloud(1, 6);
        forkIs(due, x, 7, 3, 4);
    }

    @Sentence(of = 29, says = "a part of a fraction in lowest terms: above (part 0), below the line")
    static void theLeastDrawOfTheLeastCharge(Due due) {
        BoltsByOrder x = forked(1, 0, 1, 2);
        forkIs(due, x, 0, 1, 3);
        forkIs(due, x, 1, 2, 3);
        x.set(1, 2, 0);
        forkIs(due, x, 0, 1, 1);
        forkIs(due, x, 1, 0, 1);
    }

    @Sentence(of = 29, says = "a part of a fraction in lowest terms: above (part 0), below the line")
    static void oneThatIsAloneHasAll(Due due) {
        BoltsByOrder x = forked(1, 0, 60);
        forkIs(due, x, 0, 1, 1);
        x.cloud(1, 99);
        forkIs(due, x, 0, 99, 1);
        x.set(0, 2, 1);
        forkIs(due, x, 0, 99, 1);
    }

    @Sentence(of = 29, says = "(1; 0 is 0 by 1).")
    static void zeroIs0By1(Due due) {
        BoltsByOrder x = forked(0, 0, 10, 20);
        forkIs(due, x, 0, 0, 1);
        forkIs(due, x, 1, 0, 1);
        x.cloud(1, 1);
        forkIs(due, x, 0, 1, 3);
        forkIs(due, x, 1, 2, 3);
    }

    @Sentence(of = 29, says = "BEYOND.")
    static void forkOfNoSuchRodOrPartIsRefused(Due due) {
        int[][] rows = {{-1, 0}, {1, 0}, {LEAST, 0}, {MOST, 0}, {0, -1}, {0, 2}, {0, LEAST}, {0, MOST}};
        for (int[] row : rows) {
            BoltsByOrder x = forked(60, 0, 10);
            due.refused(x, "fork(" + row[0] + ", " + row[1] + ")", () -> x.fork(row[0], row[1]), Due.BEYOND);
        }
    }

    private static void sharesAre(Due due, BoltsByOrder x, int... want) {
        for (int rod = 0; rod < want.length; rod++) {
            due.is("share(" + rod + ") of " + x.cloudOf(1), x.share(rod), want[rod]);
        }
    }

    @Sentence(of = 30, says = "Of such a FORK each has whole parts, cut")
    static void nothingIsLeftOver(Due due) {
        BoltsByOrder x = forked(96, 2, 60, 60, 60, 60, 60, 60, 60, 60);
        sharesAre(due, x, 12, 12, 12, 12, 12, 12, 12, 12);
        x.cloud(1, 8);
        sharesAre(due, x, 1, 1, 1, 1, 1, 1, 1, 1);
        x.cloud(1, 0);
        sharesAre(due, x, 0, 0, 0, 0, 0, 0, 0, 0);
    }

    @Sentence(of = 30, says = "Of such a FORK each has whole parts, cut")
    static void nothingIsSharedIfNoneDraws(Due due) {
        sharesAre(due, forked(99, 0, 0, 0), 0, 0);
        sharesAre(due, forked(99, 0, 0, 1), 0, 99);
        sharesAre(due, forked(99, 0, 60), 99);
    }

    @Sentence(of = 30, says = "what is left over goes one by one to those whose rest is greatest")
    static void theGreatestRestHasTheOneThatIsLeft(Due due) {
        BoltsByOrder x = forked(1, 0, 10, 20);
        sharesAre(due, x, 0, 1);
        x.cloud(1, 2);
        sharesAre(due, x, 1, 1);
        x.cloud(1, 4);
        sharesAre(due, x, 1, 3);
        sharesAre(due, forked(5, 0, 10, 30, 20, 0), 1, 2, 2, 0);
    }

    @Sentence(of = 30, says = "(of several the least)")
    static void theLeastOfSeveralRests(Due due) {
        BoltsByOrder x = forked(1, 2, 60, 60, 60, 60, 60, 60, 60, 60);
        sharesAre(due, x, 1, 0, 0, 0, 0, 0, 0, 0);
        x.cloud(1, 7);
        sharesAre(due, x, 1, 1, 1, 1, 1, 1, 1, 0);
        x.cloud(1, 9);
        sharesAre(due, x, 2, 1, 1, 1, 1, 1, 1, 1);
        x.cloud(1, 99);
        sharesAre(due, x, 13, 13, 13, 12, 12, 12, 12, 12);
    }

    @Sentence(of = 30, says = "BEYOND.")
    static void shareOfNoSuchRodIsRefused(Due due) {
        BoltsByOrder x = forked(60, 0, 10);
        for (int rod : new int[] {LEAST, -1, 1, MOST}) {
            due.refused(x, "share(" + rod + ")", () -> x.share(rod), Due.BEYOND);
        }
    }
}
