/** Boundary cases of the terms: findings, the cloud, hours, days by draws, sheets. Each object is a new one. */
public final class EdgesTermsTest {
    private static final int TERMS = Sentence.TERMS;
    private static final int LEAST = Integer.MIN_VALUE;
    private static final int MOST = Integer.MAX_VALUE;

    public static void main(String[] args) throws Exception {
        Edges.run(TERMS, TERMS, EdgesTermsTest.class, EdgesOfRodTerms.class, EdgesOfTextTerms.class);
    }

    // ---- findings

    @Sentence(of = TERMS, says = "FINDINGS are answers below -1000000000: -1000000001 BEYOND, -1000000002 FULL, -1000000003 KIND, "
        + "-1000000004 NONE, -1000000005 STATE, -1000000006 MISSING, -1000000007 SIZE")
    static void eachFindingHasItsNumber(Due due) {
        BoltsByOrder x = new BoltsByOrder();
        for (int i = 0; i < 8; i++) {
            x.rod(0, 0);
        }
        due.is("cloudOf(5)", x.cloudOf(5), -1000000001);
        due.is("rod(0, 0), a 9th", x.rod(0, 0), -1000000002);
        due.is("as(0, 1)", x.as(0, 1), -1000000003);
        due.is("undo()", x.undo(), -1000000004);
        due.is("lays(0)", x.lays(0), -1000000006);
        due.is("sheet(0, 8, -1)", x.sheet(0, 8, -1), -1000000007);
        Due.goTo(x, 9999);
        due.is("hours(1)", x.hours(1), -1000000005);
        for (int which = 0; which < 7; which++) {
            due.is("status(" + which + ")", x.status(which), 1);
        }
    }

    @Sentence(of = TERMS, says = "(in longs, too)")
    static void findingsOfWriteAreTheSameNumbers(Due due) {
        BoltsByOrder x = new BoltsByOrder();
        due.is("write(4, 0, 1)", x.write(4, 0, 1L), -1000000001L);
        due.is("write(0, 0, 1)", x.write(0, 0, 1L), -1000000006L);
        x.sheet(0, 64, 1);
        due.is("write(0, 1, 1)", x.write(0, 1, 1L), -1000000001L);
    }

    @Sentence(of = TERMS, says = "Each act tells its findings in the order in which they are asked")
    static void ofTwoFindingsTheFirstIsTold(Due due) {
        BoltsByOrder x = new BoltsByOrder();
        for (int i = 0; i < 8; i++) {
            x.rod(0, 0);
        }
        due.is("rod(6, 0) of 8", x.rod(6, 0), Due.BEYOND);
        due.is("rod(0, 16) of 8", x.rod(0, 16), Due.BEYOND);
        due.is("as(8, 1)", x.as(8, 1), Due.BEYOND);
        due.is("as(0, 6)", x.as(0, 6), Due.BEYOND);
        due.is("sheet(4, 8, -1)", x.sheet(4, 8, -1), Due.BEYOND);
        due.is("sheet(0, 9, -1)", x.sheet(0, 9, -1), Due.BEYOND);
        due.is("write(4, -1, 0)", x.write(4, -1, 0L), Due.BEYOND);
        due.is("write(0, -1, 0)", x.write(0, -1, 0L), Due.MISSING);
        due.is("book(4, 8)", x.book(4, 8), Due.BEYOND);
        due.is("book(0, 8)", x.book(0, 8), Due.MISSING);
        due.is("read(4, 8)", x.read(4, 8), Due.BEYOND);
        due.is("read(0, 8)", x.read(0, 8), Due.MISSING);
        x.cloud(3, 0);
        due.is("next(4), no bolt", x.next(4), Due.BEYOND);
        due.is("steals(8), no bolt", x.steals(8), Due.BEYOND);
        due.is("thief(0, 61), no bolt", x.thief(0, 61), Due.BEYOND);
        due.is("status(0)", x.status(0), 12);
        due.is("status(5)", x.status(5), 3);
    }

    @Sentence(of = TERMS, says = "Each act tells its findings in the order in which they are asked")
    static void ofTwoFindingsOfCopyTheFirstIsTold(Due due) {
        BoltsByOrder x = new BoltsByOrder();
        due.is("copy(4, 0, 0, 0, -1)", x.copy(4, 0, 0, 0, -1), Due.BEYOND);
        due.is("copy(0, 0, 4, 0, -1)", x.copy(0, 0, 4, 0, -1), Due.BEYOND);
        x.sheet(0, 8, 1);
        due.is("copy(0, 0, 1, 0, -1)", x.copy(0, 0, 1, 0, -1), Due.MISSING);
        due.is("copy(1, 0, 0, 0, -1)", x.copy(1, 0, 0, 0, -1), Due.MISSING);
        x.sheet(1, 16, 1);
        due.is("copy(0, 0, 1, 0, -1) of other bits", x.copy(0, 0, 1, 0, -1), Due.KIND);
        due.is("copy(0, 0, 1, 0, 2) of other bits", x.copy(0, 0, 1, 0, 2), Due.KIND);
    }

    @Sentence(of = TERMS, says = "Each act tells its findings in the order in which they are asked")
    static void beyondIsAskedAheadOfFullAndState(Due due) {
        BoltsByOrder x = new BoltsByOrder();
        for (int i = 0; i < 30; i++) {
            x.feed(0, 4);
        }
        due.is("feed(0, 0) of 120 bytes", x.feed(0, 0), Due.BEYOND);
        due.is("feed(0, 5) of 120 bytes", x.feed(0, 5), Due.BEYOND);
        Due.goTo(x, 9999);
        due.is("hours(0) in HOUR 9999", x.hours(0), Due.BEYOND);
        due.is("hours(101) in HOUR 9999", x.hours(101), Due.BEYOND);
        due.is("days(0) in HOUR 9999", x.days(0), Due.BEYOND);
        due.is("days(5) in HOUR 9999", x.days(5), Due.BEYOND);
    }

    @Sentence(of = TERMS, says = "one that answers a finding changes nothing but status()")
    static void refusedCallsChangeNothing(Due due) {
        BoltsByOrder x = new BoltsByOrder();
        x.rod(0, 3);
        x.cloud(1, 60);
        x.hours(1);
        x.pays(0, 1, 5);
        x.seed(77);
        Due.feed(x, "rod at 1");
        due.refused(x, "cloud(1, 100)", () -> x.cloud(1, 100), Due.BEYOND);
        due.refused(x, "rod(0, 16)", () -> x.rod(0, 16), Due.BEYOND);
        due.refused(x, "set(0, 2, 61)", () -> x.set(0, 2, 61), Due.BEYOND);
        due.refused(x, "pays(0, 2, 24)", () -> x.pays(0, 2, 24), Due.BEYOND);
        due.refused(x, "turn(0, 6)", () -> x.turn(0, 6), Due.BEYOND);
        due.refused(x, "hours(101)", () -> x.hours(101), Due.BEYOND);
        due.refused(x, "days(5)", () -> x.days(5), Due.BEYOND);
        due.refused(x, "feed(65, 5)", () -> x.feed(65, 5), Due.BEYOND);
        due.refused(x, "undo()", () -> x.undo(), Due.NONE);
        due.is("plain() of what the tape had", x.plain(), 1);
    }

    @Sentence(of = TERMS, says = "one that answers a finding changes nothing but status()")
    static void refusedCallsChangeNoSheet(Due due) {
        BoltsByOrder x = new BoltsByOrder();
        x.rod(0, 0);
        x.sheet(0, 8, 2);
        x.sheet(1, 8, 2);
        x.write(0, 0, 7L);
        x.write(1, 1, 8L);
        due.refused(x, "sheet(0, 8, 41)", () -> x.sheet(0, 8, 41), Due.BEYOND);
        due.refused(x, "sheet(0, 0, -1)", () -> x.sheet(0, 0, -1), Due.SIZE);
        due.refused(x, "write(0, 2, 9)", () -> x.write(0, 2, 9L), Due.BEYOND);
        due.refused(x, "copy(0, 0, 1, 1, 2)", () -> x.copy(0, 0, 1, 1, 2), Due.BEYOND);
        due.refused(x, "book(0, 1)", () -> x.book(0, 1), Due.BEYOND);
        due.is("number 0 of sheet 0", x.write(0, 0, 0L), 7);
        due.is("number 1 of sheet 0", x.write(0, 1, 0L), 0);
        due.is("number 0 of sheet 1", x.write(1, 0, 0L), 0);
        due.is("number 1 of sheet 1", x.write(1, 1, 0L), 8);
    }

    @Sentence(of = TERMS, says = "Quotients are cut.")
    static void aTenthAndAHalfAreCut(Due due) {
        BoltsByOrder x = new BoltsByOrder();
        x.rod(1, 0);
        x.rod(4, 0);
        x.pays(0, 0, 1);
        x.pays(1, 0, 1);
        x.cloud(1, 9);
        due.is("COPPER of 9", x.of(0, 8), 9);
        due.is("CATHEDRAL of 9", x.of(1, 8), 4);
        x.cloud(1, 29);
        due.is("COPPER of 29", x.of(0, 8), 27);
        due.is("CATHEDRAL of 29", x.of(1, 8), 13);
    }

    @Sentence(of = TERMS, says = "Sets are told by bits.")
    static void theLastOfEachSetIsItsHighestBit(Due due) {
        BoltsByOrder x = new BoltsByOrder();
        for (int i = 0; i < 8; i++) {
            x.rod(0, 15);
            x.set(i, 2, 0);
        }
        x.set(7, 2, 4);
        x.pays(7, 0, 1);
        due.is("reach of PLACE 15 alone", x.reach(7), 32768);
        due.is("ROD 7 alone is PAID", x.now(5), 128);
        x.cloud(0, 15);
        x.cloud(2, 0);
        x.cloud(3, 1);
        x.cloud(4, 23);
        due.is("clocks of a bolt at 23", x.clocks(7, 24), 8388608);
    }

    // ---- the cloud

    @Sentence(of = TERMS, says = "PLACES 0 to 15, in a row.")
    static void placesAre0To15(Due due) {
        BoltsByOrder x = new BoltsByOrder();
        x.rod(0, 0);
        due.refused(x, "cloud(0, -1)", () -> x.cloud(0, -1), Due.BEYOND);
        due.refused(x, "cloud(0, 16)", () -> x.cloud(0, 16), Due.BEYOND);
        due.refused(x, "set(0, 1, -1)", () -> x.set(0, 1, -1), Due.BEYOND);
        due.refused(x, "set(0, 1, 16)", () -> x.set(0, 1, 16), Due.BEYOND);
        due.is("cloud(0, 15)", x.cloud(0, 15), 0);
        due.is("cloud(0, 0)", x.cloud(0, 0), 15);
        due.is("set(0, 1, 15)", x.set(0, 1, 15), 0);
        due.is("set(0, 1, 0)", x.set(0, 1, 0), 15);
    }

    @Sentence(of = TERMS, says = "PLACES 0 to 15, in a row.")
    static void theEndsOfTheRowAre15Apart(Due due) {
        BoltsByOrder x = new BoltsByOrder();
        x.rod(0, 15);
        x.set(0, 2, 60);
        due.is("DRAWS by 15 PLACES", x.of(0, 7), 0);
        x.cloud(0, 1);
        due.is("DRAWS by 14 PLACES", x.of(0, 7), 4);
    }

    @Sentence(of = TERMS, says = "its PLACE (0 at first)")
    static void theCloudIsInPlace0AtFirst(Due due) {
        BoltsByOrder x = new BoltsByOrder();
        due.is("cloudOf(0)", x.cloudOf(0), 0);
    }

    @Sentence(of = TERMS, says = "CHARGE (0 to 99; 0 at first)")
    static void chargeIs0To99(Due due) {
        partIs(due, 1, 0, 99, 0);
    }

    @Sentence(of = TERMS, says = "DRIFT (-1, 0 or 1; 1 at first)")
    static void driftIsOneOfThree(Due due) {
        partIs(due, 2, -1, 1, 1);
        BoltsByOrder x = new BoltsByOrder();
        due.is("cloud(2, 0)", x.cloud(2, 0), 1);
        due.is("cloudOf(2)", x.cloudOf(2), 0);
    }

    @Sentence(of = TERMS, says = "GROWS (0 to 50; 20 at first)")
    static void growsIs0To50(Due due) {
        partIs(due, 3, 0, 50, 20);
    }

    @Sentence(of = TERMS, says = "BREAKS (20 to 99; 60 at first")
    static void breaksIs20To99(Due due) {
        partIs(due, 4, 20, 99, 60);
    }

    private static void partIs(Due due, int what, int least, int most, int first) {
        BoltsByOrder x = new BoltsByOrder();
        due.is("cloudOf(" + what + ") at first", x.cloudOf(what), first);
        for (int v : new int[] {LEAST, least - 1, most + 1, MOST}) {
            due.refused(x, "cloud(" + what + ", " + v + ")", () -> x.cloud(what, v), Due.BEYOND);
        }
        due.answers(x, "cloud(" + what + ", " + least + ")", () -> x.cloud(what, least), first);
        due.answers(x, "cloud(" + what + ", " + most + ")", () -> x.cloud(what, most), least);
        due.answers(x, "cloudOf(" + what + ")", () -> x.cloudOf(what), most);
    }

    @Sentence(of = TERMS, says = "with so much CHARGE it strikes")
    static void chargeThatIsJustBreaksStrikes(Due due) {
        for (int breaks : new int[] {20, 60, 99}) {
            BoltsByOrder x = new BoltsByOrder();
            x.cloud(4, breaks);
            x.cloud(1, breaks);
            due.is("next(0) by CHARGE " + breaks, x.next(0), 0);
            x.cloud(1, breaks - 1);
            due.is("next(0) by CHARGE " + (breaks - 1), x.next(0), 1);
        }
    }

    // ---- hours

    @Sentence(of = TERMS, says = "HOUR: 0 at first (9999 at most)")
    static void theLastHourIs9999(Due due) {
        BoltsByOrder x = new BoltsByOrder();
        due.is("now(0) at first", x.now(0), 0);
        Due.goTo(x, 9998);
        due.is("hours(1) in HOUR 9998", x.hours(1), 0);
        due.is("now(0)", x.now(0), 9999);
        due.refused(x, "hours(1)", () -> x.hours(1), Due.STATE);
    }

    @Sentence(of = TERMS, says = "its CLOCK is the rest by 24")
    static void theClockWrapsAroundBehind23(Due due) {
        BoltsByOrder x = new BoltsByOrder();
        due.is("now(1) in HOUR 0", x.now(1), 0);
        Due.goTo(x, 23);
        due.is("now(1) in HOUR 23", x.now(1), 23);
        Due.goTo(x, 24);
        due.is("now(1) in HOUR 24", x.now(1), 0);
        Due.goTo(x, 9999);
        due.is("now(1) in HOUR 9999", x.now(1), 15);
    }

    @Sentence(of = TERMS, says = "STRAYS: 0 at first (held to 99999).")
    static void straysAreHeldTo99999(Due due) {
        BoltsByOrder x = new BoltsByOrder();
        due.is("now(4) at first", x.now(4), 0);
        x.cloud(1, 50);
        x.cloud(3, 50);
        x.cloud(4, 20);
        Due.goTo(x, 1999);
        due.is("now(4) of 1999 bolts of 50", x.now(4), 99950);
        x.image();
        x.cloud(1, 48);
        x.hours(1);
        due.is("and 48", x.now(4), 99998);
        x.undo();
        x.cloud(1, 49);
        x.hours(1);
        due.is("and 49", x.now(4), 99999);
        x.undo();
        x.hours(1);
        due.is("and 50", x.now(4), 99999);
        x.hours(100);
        due.is("and 100 bolts more", x.now(4), 99999);
    }

    // ---- on, the next bolt, days by draws

    @Sentence(of = TERMS, says = "ON: n HOURS go on with all as it is; nothing changes.")
    static void whatGoesOnChangesNothing(Due due) {
        BoltsByOrder x = new BoltsByOrder();
        x.rod(0, 0);
        x.rod(3, 9);
        x.set(0, 2, 60);
        x.pays(0, 0, 23);
        x.cloud(2, 0);
        x.sheet(0, 8, 40);
        String before = Due.look(x);
        due.is("on(0, 100, 0): 33 bolts of 60", x.on(0, 100, 0), 1980);
        x.on(1, 100, 1);
        x.strays(100);
        x.clocks(0, 100);
        x.covers(0, 100);
        x.from(0, 100);
        x.place(0, 100);
        x.thief(0, 60);
        x.kind(0, 60);
        x.book(0, 0);
        x.read(0, 0);
        x.next(0);
        x.steals(0);
        x.ducks(0);
        due.holds("all is as it was", before.equals(Due.look(x)));
        due.is("on(0, 0, 0)", x.on(0, 0, 0), 0);
    }

    @Sentence(of = TERMS, says = "THE NEXT BOLT: the first one ON, within 100 HOURS.")
    static void theLatestNextBoltIsThatOfThe100thHour(Due due) {
        BoltsByOrder x = new BoltsByOrder();
        x.cloud(3, 1);
        x.cloud(4, 99);
        due.is("next(0): 99 HOURS, and it strikes in the 100th", x.next(0), 99);
        due.is("next(2)", x.next(2), 99);
        x.cloud(3, 0);
        x.cloud(1, 98);
        due.is("next(0) without a bolt", x.next(0), Due.NONE);
        x.cloud(1, 99);
        due.is("next(0) at once", x.next(0), 0);
    }

    @Sentence(of = TERMS, says = "z is told (1 at first)")
    static void zIs1AtFirst(Due due) {
        BoltsByOrder x = new BoltsByOrder();
        due.is("seed(0)", x.seed(0), 1);
    }

    @Sentence(of = TERMS, says = "each draw makes it z * 1103515245 + 12345 (an int)")
    static void zWrapsAround(Due due) {
        int[] seeds = {0, 1, 2, -1, MOST, LEAST};
        int[] then = {12345, 1103527590, -2087924461, -1103502900, 1043980748, -2147471303};
        for (int i = 0; i < seeds.length; i++) {
            BoltsByOrder x = new BoltsByOrder();
            x.seed(seeds[i]);
            x.days(1);
            due.is("z behind " + seeds[i], x.seed(0), then[i]);
        }
    }

    @Sentence(of = TERMS, says = "and gives z >>> 8")
    static void aDrawOfANegativeZIsNotNegative(Due due) {
        BoltsByOrder x = new BoltsByOrder();
        x.cloud(0, 8);
        x.seed(3);
        x.days(1);
        due.is("z is below 0", x.seed(0), -984409216);
        due.is("DRIFT by its draw", x.cloudOf(2), 0);
    }

    @Sentence(of = TERMS, says = "A DAY is 24 HOURS; ahead of each DAY a draw")
    static void fourDaysAreFourDraws(Due due) {
        BoltsByOrder x = new BoltsByOrder();
        x.days(4);
        due.is("now(0)", x.now(0), 96);
        due.is("z behind 4 draws", x.seed(0), -999580867);
    }

    @Sentence(of = TERMS, says = "DRIFT is its rest by 3, less 1.")
    static void aRestOf0And1And2(Due due) {
        int[] seeds = {0, 3, 1};
        int[] places = {8, 0, 7};
        int[] drifts = {-1, 0, -1};
        for (int rest = 0; rest < 3; rest++) {
            BoltsByOrder x = new BoltsByOrder();
            x.seed(seeds[rest]);
            x.days(1);
            due.is("PLACE from 0 by DRIFT " + (rest - 1), x.cloudOf(0), places[rest]);
            due.is("DRIFT then", x.cloudOf(2), drifts[rest]);
        }
    }

    // ---- sheets

    @Sentence(of = TERMS, says = "SHEETS 0 to 3 are rows of at most 40 numbers of 8, 16 or 64 bits")
    static void sheetsAre0To3OfAtMost40(Due due) {
        BoltsByOrder x = new BoltsByOrder();
        due.is("sheet(-1, 8, 1)", x.sheet(-1, 8, 1), Due.BEYOND);
        due.is("sheet(0, 8, 40)", x.sheet(0, 8, 40), 40);
        due.is("sheet(3, 64, 40)", x.sheet(3, 64, 40), 40);
        due.is("sheet(3, 16, 41)", x.sheet(3, 16, 41), Due.BEYOND);
        due.is("sheet(4, 16, 1)", x.sheet(4, 16, 1), Due.BEYOND);
        due.is("write(0, 39, 1)", x.write(0, 39, 1L), 0);
        due.is("write(0, 40, 1)", x.write(0, 40, 1L), Due.BEYOND);
    }

    @Sentence(of = TERMS, says = "or MISSING (at first).")
    static void sheetsAreMissingAtFirst(Due due) {
        BoltsByOrder x = new BoltsByOrder();
        for (int s = 0; s < 4; s++) {
            due.is("lays(" + s + ")", x.lays(s), Due.MISSING);
        }
    }
}
