/** Boundary cases of the terms of rods and of an hour; EdgesTermsTest runs them. */
final class EdgesOfRodTerms {
    private static final int TERMS = Sentence.TERMS;
    private static final int LEAST = Integer.MIN_VALUE;
    private static final int MOST = Integer.MAX_VALUE;
    private static final int ROD = 0;
    private static final int COPPER = 1;
    private static final int KITE = 2;
    private static final int OAK = 3;
    private static final int CATHEDRAL = 4;
    private static final int POACHER = 5;

    private EdgesOfRodTerms() {
    }

    // ---- rods

    @Sentence(of = TERMS, says = "RODS 0, 1, .. (at most 8)")
    static void thereIsNo9thRod(Due due) {
        BoltsByOrder x = new BoltsByOrder();
        due.is("of(0, 0), no RODS", x.of(0, 0), Due.BEYOND);
        for (int i = 0; i < 8; i++) {
            due.is("rod(0, 0)", x.rod(0, 0), i);
        }
        due.refused(x, "rod(0, 0), a 9th", () -> x.rod(0, 0), Due.FULL);
        due.is("count(0)", x.count(0), 8);
        due.is("of(7, 2)", x.of(7, 2), 10);
        due.is("of(8, 2)", x.of(8, 2), Due.BEYOND);
    }

    @Sentence(of = TERMS, says = "are of KINDS: 0 ROD, 1 COPPER under ROD, 2 KITE under ROD, 3 OAK under ROD, "
        + "4 CATHEDRAL under COPPER, 5 POACHER under KITE")
    static void kindsAre0To5(Due due) {
        BoltsByOrder x = new BoltsByOrder();
        for (int kind : new int[] {LEAST, -1, 6, MOST}) {
            due.refused(x, "rod(" + kind + ", 0)", () -> x.rod(kind, 0), Due.BEYOND);
        }
        for (int kind = 0; kind <= 5; kind++) {
            due.is("rod(" + kind + ", 0)", x.rod(kind, 0), kind);
            due.is("of(" + kind + ", 0)", x.of(kind, 0), kind);
        }
    }

    @Sentence(of = TERMS, says = "are of KINDS: 0 ROD, 1 COPPER under ROD, 2 KITE under ROD, 3 OAK under ROD, "
        + "4 CATHEDRAL under COPPER, 5 POACHER under KITE")
    static void underIsAlsoUnderTheOneAbove(Due due) {
        int[] kindsItIsOf = {1, 1 | 2, 1 | 4, 1 | 8, 1 | 2 | 16, 1 | 4 | 32};
        BoltsByOrder x = new BoltsByOrder();
        for (int rod = 0; rod <= 5; rod++) {
            x.rod(rod, 0);
            for (int kind = 0; kind <= 5; kind++) {
                boolean is = (kindsItIsOf[rod] >> kind & 1) == 1;
                due.is("as(" + rod + ", " + kind + ")", x.as(rod, kind), is ? 10 : Due.KIND);
            }
        }
    }

    @Sentence(of = TERMS, says = "each in a PLACE (several may be in one)")
    static void allEightMayBeInOnePlace(Due due) {
        BoltsByOrder x = new BoltsByOrder();
        for (int i = 0; i < 8; i++) {
            due.is("rod(0, 15)", x.rod(0, 15), i);
            due.is("of(" + i + ", 1)", x.of(i, 1), 15);
        }
    }

    @Sentence(of = TERMS, says = "with a HEIGHT (0 to 60; 10 at first)")
    static void heightIs0To60(Due due) {
        BoltsByOrder x = new BoltsByOrder();
        x.rod(0, 0);
        due.is("of(0, 2) at first", x.of(0, 2), 10);
        for (int v : new int[] {LEAST, -1, 61, MOST}) {
            due.refused(x, "set(0, 2, " + v + ")", () -> x.set(0, 2, v), Due.BEYOND);
        }
        due.is("set(0, 2, 0)", x.set(0, 2, 0), 10);
        due.is("set(0, 2, 60)", x.set(0, 2, 60), 0);
        due.is("of(0, 2)", x.of(0, 2), 60);
    }

    // ---- paid hours

    private static void isPaidFromTo(Due due, int from, int to, int... paid) {
        BoltsByOrder x = new BoltsByOrder();
        x.rod(0, 0);
        due.is("pays(0, " + from + ", " + to + ")", x.pays(0, from, to), paid.length);
        int set = 0;
        for (int clock : paid) {
            set |= 1 << clock;
        }
        for (int hour = 0; hour < 48; hour++) {
            due.is("of(0, 9) in HOUR " + hour, x.of(0, 9), set >> (hour % 24) & 1);
            x.hours(1);
        }
    }

    @Sentence(of = TERMS, says = "those of the CLOCK from FROM on ahead of TO")
    static void fromIsPaidAndToIsNot(Due due) {
        isPaidFromTo(due, 3, 5, 3, 4);
        isPaidFromTo(due, 3, 4, 3);
    }

    @Sentence(of = TERMS, says = "round: 0 to 23 both")
    static void paidHoursGoRoundBehind23(Due due) {
        isPaidFromTo(due, 22, 2, 22, 23, 0, 1);
        isPaidFromTo(due, 23, 0, 23);
        isPaidFromTo(due, 0, 23, 0, 1, 2, 3, 4, 5, 6, 7, 8, 9, 10, 11, 12, 13, 14, 15, 16, 17, 18, 19, 20, 21, 22);
        isPaidFromTo(due, 1, 0, 1, 2, 3, 4, 5, 6, 7, 8, 9, 10, 11, 12, 13, 14, 15, 16, 17, 18, 19, 20, 21, 22, 23);
    }

    @Sentence(of = TERMS, says = "round: 0 to 23 both")
    static void fromAndToAre0To23(Due due) {
        BoltsByOrder x = new BoltsByOrder();
        x.rod(0, 0);
        x.pays(0, 2, 5);
        for (int v : new int[] {LEAST, -1, 24, MOST}) {
            due.refused(x, "pays(0, " + v + ", 3)", () -> x.pays(0, v, 3), Due.BEYOND);
            due.refused(x, "pays(0, 3, " + v + ")", () -> x.pays(0, 3, v), Due.BEYOND);
        }
        due.is("pays(0, 0, 23)", x.pays(0, 0, 23), 23);
        due.is("pays(0, 23, 0)", x.pays(0, 23, 0), 1);
    }

    @Sentence(of = TERMS, says = "none if they are the same")
    static void noneIsPaidIfFromIsTo(Due due) {
        isPaidFromTo(due, 0, 0);
        isPaidFromTo(due, 12, 12);
        isPaidFromTo(due, 23, 23);
    }

    @Sentence(of = TERMS, says = "0, 0 at first")
    static void noneIsPaidAtFirst(Due due) {
        BoltsByOrder x = new BoltsByOrder();
        x.rod(0, 0);
        due.is("of(0, 3)", x.of(0, 3), 0);
        due.is("of(0, 4)", x.of(0, 4), 0);
        due.is("of(0, 9)", x.of(0, 9), 0);
        due.is("count(3)", x.count(3), 0);
    }

    // ---- bills and bolts

    @Sentence(of = TERMS, says = "BILL (0 at first)")
    static void billIs0AtFirst(Due due) {
        BoltsByOrder x = new BoltsByOrder();
        x.rod(0, 0);
        due.is("of(0, 5)", x.of(0, 5), 0);
        due.is("settle(0)", x.settle(0), 0);
    }

    @Sentence(of = TERMS, says = "BOLTS (how many struck it; 0 at first)")
    static void boltsAre0AtFirst(Due due) {
        BoltsByOrder x = new BoltsByOrder();
        x.rod(0, 0);
        due.is("of(0, 6)", x.of(0, 6), 0);
        x.cloud(1, 60);
        x.hours(1);
        due.is("of(0, 6) behind a bolt", x.of(0, 6), 1);
    }

    /** One that is struck by a bolt of 50 in each hour, and pays for all but those of the CLOCK 23. */
    private static BoltsByOrder struckInEachHour() {
        BoltsByOrder x = new BoltsByOrder();
        x.rod(0, 0);
        x.pays(0, 0, 23);
        x.cloud(1, 50);
        x.cloud(2, 0);
        x.cloud(3, 50);
        x.cloud(4, 20);
        return x;
    }

    @Sentence(of = TERMS, says = "(both held to 99999)")
    static void billIsHeldTo99999(Due due) {
        BoltsByOrder x = struckInEachHour();
        Due.goTo(x, 2085);
        due.is("of(0, 5) of 1999 bolts of 50", x.of(0, 5), 99950);
        x.image();
        x.cloud(1, 48);
        x.hours(1);
        due.is("and 48", x.of(0, 5), 99998);
        x.undo();
        x.cloud(1, 49);
        x.hours(1);
        due.is("and 49", x.of(0, 5), 99999);
        x.undo();
        due.is("hours(1), and 50", x.hours(1), 99999);
        due.is("of(0, 5)", x.of(0, 5), 99999);
        due.is("hours(100), and 100 bolts more", x.hours(100), 99999);
        due.is("STRAYS have the unpaid ones alone", x.now(4), 50 * 91);
    }

    /** No run of calls comes to more BOLTS than there are HOURS, so the greatest that can be is told in full. */
    @Sentence(of = TERMS, says = "(both held to 99999)")
    static void boltsOfAllHoursAreTold(Due due) {
        BoltsByOrder x = struckInEachHour();
        Due.goTo(x, 9999);
        due.is("of(0, 6)", x.of(0, 6), 9999);
        due.is("on(0, 100, 1)", x.on(0, 100, 1), 10099);
    }

    // ---- draws

    /** What one in PLACE 0 DRAWS by 0, 1, 2, .. PLACES between. */
    private static void draws(Due due, int kind, int height, int... want) {
        BoltsByOrder x = new BoltsByOrder();
        x.rod(kind, 0);
        x.set(0, 2, height);
        for (int d = 0; d < want.length; d++) {
            x.cloud(0, d);
            due.is("KIND " + kind + ", HEIGHT " + height + ", by " + d, x.of(0, 7), want[d]);
        }
    }

    @Sentence(of = TERMS, says = "DRAWS from THE CLOUD, by d PLACES between: ROD: HEIGHT less 4 times d.")
    static void aRodDrawsNothingByTooManyPlaces(Due due) {
        draws(due, ROD, 0, 0, 0);
        draws(due, ROD, 1, 1, 0);
        draws(due, ROD, 4, 4, 0, 0);
        draws(due, ROD, 5, 5, 1, 0);
        draws(due, ROD, 10, 10, 6, 2, 0, 0);
        draws(due, ROD, 60, 60, 56, 52, 48, 44, 40, 36, 32, 28, 24, 20, 16, 12, 8, 4, 0);
    }

    @Sentence(of = TERMS, says = "DRAWS from THE CLOUD, by d PLACES between: ROD: HEIGHT less 4 times d.")
    static void placesBetweenAreTheSameBothWays(Due due) {
        BoltsByOrder x = new BoltsByOrder();
        x.rod(ROD, 8);
        x.set(0, 2, 60);
        x.cloud(0, 1);
        due.is("of(0, 7) by 7 on the left", x.of(0, 7), 32);
        x.cloud(0, 15);
        due.is("of(0, 7) by 7 on the right", x.of(0, 7), 32);
    }

    @Sentence(of = TERMS, says = "COPPER: as ROD, and 8.")
    static void aCopperDraws8AtLeast(Due due) {
        draws(due, COPPER, 0, 8, 8);
        draws(due, COPPER, 10, 18, 14, 10, 8, 8);
        draws(due, COPPER, 60, 68, 64);
    }

    @Sentence(of = TERMS, says = "KITE: as ROD, and HEIGHT again.")
    static void aKiteDrawsItsHeightAtLeast(Due due) {
        draws(due, KITE, 0, 0, 0);
        draws(due, KITE, 10, 20, 16, 12, 10, 10);
        draws(due, KITE, 60, 120, 116);
    }

    @Sentence(of = TERMS, says = "OAK: as ROD, less 3.")
    static void anOakDraws0AtLeast(Due due) {
        draws(due, OAK, 0, 0, 0);
        draws(due, OAK, 2, 0);
        draws(due, OAK, 3, 0);
        draws(due, OAK, 4, 1, 0);
        draws(due, OAK, 10, 7, 3, 0, 0);
        draws(due, OAK, 60, 57, 53);
    }

    @Sentence(of = TERMS, says = "CATHEDRAL: as COPPER, and 20.")
    static void aCathedralDraws28AtLeast(Due due) {
        draws(due, CATHEDRAL, 0, 28, 28);
        draws(due, CATHEDRAL, 10, 38, 34, 30, 28, 28);
        draws(due, CATHEDRAL, 60, 88, 84);
    }

    @Sentence(of = TERMS, says = "POACHER: as KITE, less 10.")
    static void aPoacherDraws0AtLeast(Due due) {
        draws(due, POACHER, 0, 0, 0);
        draws(due, POACHER, 4, 0);
        draws(due, POACHER, 5, 0);
        draws(due, POACHER, 6, 2, 0);
        draws(due, POACHER, 10, 10, 6, 2, 0, 0);
        draws(due, POACHER, 11, 12, 8, 4, 1, 1);
        draws(due, POACHER, 60, 110, 106);
    }

    @Sentence(of = TERMS, says = "(Each is 0 at least, ahead of what a KIND under it makes of it.)")
    static void whatIsBelow0IsNotCarriedToTheKindUnder(Due due) {
        BoltsByOrder x = new BoltsByOrder();
        int[] farAway = {0, 8, 10, 0, 28, 0};
        for (int kind = 0; kind <= 5; kind++) {
            x.rod(kind, 15);
            due.is("KIND " + kind + " by 15 PLACES", x.of(kind, 7), farAway[kind]);
        }
    }

    // ---- owes

    /** What one OWES for a bolt of as much CHARGE, PAID and not. */
    private static void owes(Due due, int kind, int charge, int want) {
        BoltsByOrder x = new BoltsByOrder();
        x.rod(kind, 0);
        x.cloud(1, charge);
        due.is("KIND " + kind + " of " + charge + ", not PAID", x.of(0, 8), 0);
        x.pays(0, 0, 1);
        due.is("KIND " + kind + " of " + charge + ", PAID", x.of(0, 8), want);
        x.pays(0, 1, 0);
        due.is("KIND " + kind + " of " + charge + ", PAID but for this hour", x.of(0, 8), 0);
    }

    @Sentence(of = TERMS, says = "OWES, for a bolt of c CHARGE: ROD: c, if the hour is PAID, else 0.")
    static void aRodOwesAllOrNothing(Due due) {
        owes(due, ROD, 0, 0);
        owes(due, ROD, 1, 1);
        owes(due, ROD, 99, 99);
    }

    @Sentence(of = TERMS, says = "COPPER: as ROD, less a tenth of it.")
    static void aTenthBelow10IsNothing(Due due) {
        int[][] rows = {{0, 0}, {1, 1}, {9, 9}, {10, 9}, {19, 18}, {20, 18}, {60, 54}, {99, 90}};
        for (int[] row : rows) {
            owes(due, COPPER, row[0], row[1]);
        }
    }

    @Sentence(of = TERMS, says = "OAK: nothing.")
    static void anOakOwesNothing(Due due) {
        owes(due, OAK, 0, 0);
        owes(due, OAK, 99, 0);
    }

    @Sentence(of = TERMS, says = "CATHEDRAL: half as COPPER.")
    static void halfOf1IsNothing(Due due) {
        int[][] rows = {{0, 0}, {1, 0}, {2, 1}, {3, 1}, {10, 4}, {20, 9}, {60, 27}, {99, 45}};
        for (int[] row : rows) {
            owes(due, CATHEDRAL, row[0], row[1]);
        }
    }

    @Sentence(of = TERMS, says = "POACHER: nothing.")
    static void aPoacherOwesNothing(Due due) {
        owes(due, POACHER, 0, 0);
        owes(due, POACHER, 99, 0);
    }

    @Sentence(of = TERMS, says = "(All others as the KIND above.)")
    static void aKiteOwesAsARod(Due due) {
        owes(due, KITE, 0, 0);
        owes(due, KITE, 99, 99);
    }

    // ---- an hour

    @Sentence(of = TERMS, says = "AN HOUR goes: first, if CHARGE is BREAKS or more, a bolt")
    static void noBoltJustBelowBreaks(Due due) {
        int[][] rows = {{59, 60, 0}, {60, 60, 1}, {61, 60, 1}, {19, 20, 0}, {20, 20, 1}, {99, 20, 1}, {98, 99, 0}, {99, 99, 1}};
        for (int[] row : rows) {
            BoltsByOrder x = new BoltsByOrder();
            x.rod(ROD, 0);
            x.cloud(1, row[0]);
            x.cloud(4, row[1]);
            x.hours(1);
            due.is("BOLTS by CHARGE " + row[0] + " and BREAKS " + row[1], x.of(0, 6), row[2]);
        }
    }

    @Sentence(of = TERMS, says = "it strikes the one that DRAWS most (of several the least)")
    static void ofTwoThatDrawTheSameTheLeastIsStruck(Due due) {
        BoltsByOrder x = new BoltsByOrder();
        x.rod(ROD, 0);
        x.rod(ROD, 0);
        x.rod(ROD, 0);
        x.set(0, 2, 9);
        x.cloud(1, 60);
        x.hours(1);
        due.is("BOLTS of ROD 0, which DRAWS 1 less", x.of(0, 6), 0);
        due.is("BOLTS of ROD 1", x.of(1, 6), 1);
        due.is("BOLTS of ROD 2", x.of(2, 6), 0);
    }

    @Sentence(of = TERMS, says = "if that is above 0")
    static void oneThatDraws0IsNotStruck(Due due) {
        for (int height = 0; height <= 1; height++) {
            BoltsByOrder x = new BoltsByOrder();
            x.rod(ROD, 0);
            x.set(0, 2, height);
            x.cloud(1, 60);
            x.hours(1);
            due.is("BOLTS of one that DRAWS " + height, x.of(0, 6), height);
        }
    }

    @Sentence(of = TERMS, says = "BOLTS of it are 1 more, BILL more by what it OWES (if it OWES nothing, CHARGE is added to STRAYS).")
    static void aBoltThatIsNotPaidStrays(Due due) {
        for (int kind = 0; kind <= 5; kind++) {
            for (int paid = 0; paid <= 1; paid++) {
                int[] owed = {60, 54, 60, 0, 27, 0};
                int bill = paid * owed[kind];
                BoltsByOrder x = new BoltsByOrder();
                x.rod(kind, 0);
                x.pays(0, 0, paid);
                x.cloud(1, 60);
                due.is("hours(1), KIND " + kind, x.hours(1), bill);
                due.is("BOLTS", x.of(0, 6), 1);
                due.is("BILL", x.of(0, 5), bill);
                due.is("STRAYS", x.now(4), bill == 0 ? 60 : 0);
            }
        }
    }

    @Sentence(of = TERMS, says = "If none DRAWS above 0, CHARGE is added to STRAYS.")
    static void aBoltThatStrikesNoneStrays(Due due) {
        BoltsByOrder x = new BoltsByOrder();
        x.cloud(1, 99);
        x.hours(1);
        due.is("STRAYS, no RODS", x.now(4), 99);
        x.rod(ROD, 0);
        x.set(0, 2, 0);
        x.pays(0, 0, 23);
        x.cloud(1, 60);
        x.hours(1);
        due.is("STRAYS, none DRAWS", x.now(4), 159);
        due.is("BOLTS", x.of(0, 6), 0);
        due.is("BILL", x.of(0, 5), 0);
    }

    @Sentence(of = TERMS, says = "CHARGE is 0 then.")
    static void nothingIsLeftOfTheCharge(Due due) {
        BoltsByOrder x = new BoltsByOrder();
        x.cloud(1, 99);
        x.cloud(3, 0);
        x.cloud(4, 20);
        x.hours(1);
        due.is("CHARGE behind a bolt", x.cloudOf(1), 0);
        x.cloud(1, 19);
        x.hours(1);
        due.is("CHARGE without a bolt", x.cloudOf(1), 19);
    }

    @Sentence(of = TERMS, says = "Then THE CLOUD goes one PLACE on by DRIFT "
        + "(it turns about at the ends: it stays, and DRIFT is the other way).")
    static void theCloudTurnsAboutAtTheEnds(Due due) {
        // PLACE and DRIFT ahead of an hour, and behind it
        int[][] rows = {{14, 1, 15, 1}, {15, 1, 15, -1}, {15, -1, 14, -1}, {1, -1, 0, -1}, {0, -1, 0, 1}, {0, 1, 1, 1},
            {0, 0, 0, 0}, {15, 0, 15, 0}, {7, 0, 7, 0}};
        for (int[] row : rows) {
            BoltsByOrder x = new BoltsByOrder();
            x.cloud(0, row[0]);
            x.cloud(2, row[1]);
            x.hours(1);
            due.is("PLACE behind " + row[0] + " by " + row[1], x.cloudOf(0), row[2]);
            due.is("DRIFT behind " + row[0] + " by " + row[1], x.cloudOf(2), row[3]);
        }
    }

    @Sentence(of = TERMS, says = "Then THE CLOUD goes one PLACE on by DRIFT "
        + "(it turns about at the ends: it stays, and DRIFT is the other way).")
    static void thereAndBackIs32Hours(Due due) {
        BoltsByOrder x = new BoltsByOrder();
        x.hours(16);
        due.is("PLACE in HOUR 16", x.cloudOf(0), 15);
        due.is("DRIFT in HOUR 16", x.cloudOf(2), -1);
        x.hours(16);
        due.is("PLACE in HOUR 32", x.cloudOf(0), 0);
        due.is("DRIFT in HOUR 32", x.cloudOf(2), 1);
    }

    @Sentence(of = TERMS, says = "Then CHARGE is more by GROWS (99 at most).")
    static void chargeDoesNotGrowAbove99(Due due) {
        int[][] rows = {{48, 50, 98}, {49, 50, 99}, {50, 50, 99}, {98, 0, 98}, {98, 1, 99}, {98, 2, 99}, {98, 50, 99}, {0, 0, 0}};
        for (int[] row : rows) {
            BoltsByOrder x = new BoltsByOrder();
            x.cloud(4, 99);
            x.cloud(1, row[0]);
            x.cloud(3, row[1]);
            x.hours(1);
            due.is("CHARGE of " + row[0] + " and " + row[1], x.cloudOf(1), row[2]);
        }
    }

    @Sentence(of = TERMS, says = "HOUR is 1 more.")
    static void theBoltOfAnHourIsPaidByTheClockAheadOfIt(Due due) {
        BoltsByOrder x = new BoltsByOrder();
        x.rod(ROD, 0);
        x.pays(0, 0, 1);
        x.cloud(1, 60);
        due.is("hours(1)", x.hours(1), 60);
        due.is("now(0)", x.now(0), 1);
    }
}
