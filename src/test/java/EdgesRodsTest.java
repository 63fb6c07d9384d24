/** Boundary cases of promises 1 to 11: a new object, the cloud, rods. */
public final class EdgesRodsTest {
    private static final int LEAST = Integer.MIN_VALUE;
    private static final int MOST = Integer.MAX_VALUE;

    public static void main(String[] args) throws Exception {
        Edges.run(1, 11, EdgesRodsTest.class);
    }

    private static BoltsByOrder withRods(int... kinds) {
        BoltsByOrder x = new BoltsByOrder();
        for (int kind : kinds) {
            x.rod(kind, 0);
        }
        return x;
    }

    // ---- a new object

    @Sentence(of = 1, says = "No RODS")
    static void aNewObjectHasNoRods(Due due) {
        BoltsByOrder x = new BoltsByOrder();
        due.is("count(0)", x.count(0), 0);
        due.is("count(2)", x.count(2), 0);
        due.is("count(3)", x.count(3), 0);
        due.refused(x, "of(0, 0)", () -> x.of(0, 0), Due.BEYOND);
        due.is("struck(0)", x.struck(0), -1);
        due.is("rod(0, 0)", x.rod(0, 0), 0);
    }

    @Sentence(of = 1, says = "No RODS")
    static void eachCallThatAsksForARodIsRefused(Due due) {
        BoltsByOrder x = new BoltsByOrder();
        x.sheet(0, 8, 1);
        int[] answers = {x.of(0, 0), x.set(0, 1, 0), x.pays(0, 0, 0), x.turn(0, 0), x.as(0, 0), x.down(0), x.settle(0),
            x.on(0, 0, 0), x.reach(0), x.steals(0), x.ducks(0), x.place(0, 0), x.thief(0, 0), x.kind(0, 0), x.clocks(0, 0),
            x.covers(0, 0), x.from(0, 0), x.fork(0, 0), x.share(0), x.book(0, 0), x.read(0, 0)};
        for (int i = 0; i < answers.length; i++) {
            due.is("call " + i + " of no ROD", answers[i], Due.BEYOND);
        }
        due.is("status(0)", x.status(0), 21);
        due.is("status(-1)", x.status(-1), 21);
    }

    @Sentence(of = 1, says = "THE TAPE is empty")
    static void aNewTapeIsEmpty(Due due) {
        BoltsByOrder x = new BoltsByOrder();
        due.is("count(1)", x.count(1), 0);
        due.is("wipe()", x.wipe(), 0);
        due.is("plain()", x.plain(), -1);
    }

    @Sentence(of = 1, says = "no image is kept.")
    static void aNewObjectHasNoImage(Due due) {
        BoltsByOrder x = new BoltsByOrder();
        due.is("tear()", x.tear(), 0);
        due.refused(x, "undo()", x::undo, Due.NONE);
    }

    @Sentence(of = 1, says = "No RODS; THE TAPE is empty, no image is kept.")
    static void twoObjectsHaveNothingInCommon(Due due) {
        BoltsByOrder x = withRods(0, 1);
        x.feed(65, 1);
        x.image();
        x.seed(9);
        x.sheet(0, 8, 1);
        x.cloud(0, 9);
        x.cloud(9, 9);
        BoltsByOrder y = new BoltsByOrder();
        due.is("count(0)", y.count(0), 0);
        due.is("count(1)", y.count(1), 0);
        due.is("cloudOf(0)", y.cloudOf(0), 0);
        due.is("status(-1)", y.status(-1), 0);
        due.is("seed(1)", y.seed(1), 1);
        due.is("lays(0)", y.lays(0), Due.MISSING);
        due.is("undo()", y.undo(), Due.NONE);
    }

    // ---- the cloud

    @Sentence(of = 2, says = "PLACE (what 0), CHARGE (1), DRIFT (2), GROWS (3), BREAKS (4) of THE CLOUD becomes v")
    static void eachPartBecomesItsLeastAndItsMost(Due due) {
        int[] least = {0, 0, -1, 0, 20};
        int[] most = {15, 99, 1, 50, 99};
        int[] first = {0, 0, 1, 20, 60};
        for (int what = 0; what < 5; what++) {
            BoltsByOrder x = new BoltsByOrder();
            due.is("cloud(" + what + ", " + least[what] + ")", x.cloud(what, least[what]), first[what]);
            due.is("cloud(" + what + ", " + most[what] + ")", x.cloud(what, most[what]), least[what]);
            for (int other = 0; other < 5; other++) {
                due.is("cloudOf(" + other + ")", x.cloudOf(other), other == what ? most[what] : first[other]);
            }
        }
    }

    @Sentence(of = 2, says = "what it was (any number).")
    static void aDriftThatWasBelow0IsNoFinding(Due due) {
        BoltsByOrder x = new BoltsByOrder();
        x.cloud(2, -1);
        due.answers(x, "cloud(2, -1)", () -> x.cloud(2, -1), -1);
        due.answers(x, "cloud(2, 0)", () -> x.cloud(2, 0), -1);
    }

    @Sentence(of = 2, says = "BEYOND.")
    static void anotherWhatOfCloudIsRefused(Due due) {
        BoltsByOrder x = new BoltsByOrder();
        for (int what : new int[] {LEAST, -1, 5, MOST}) {
            due.refused(x, "cloud(" + what + ", 0)", () -> x.cloud(what, 0), Due.BEYOND);
            due.refused(x, "cloud(" + what + ", 20)", () -> x.cloud(what, 20), Due.BEYOND);
        }
    }

    @Sentence(of = 2, says = "BEYOND.")
    static void aPartJustBelowAndJustAboveIsRefused(Due due) {
        int[][] rows = {{0, -1}, {0, 16}, {1, -1}, {1, 100}, {2, -2}, {2, 2}, {3, -1}, {3, 51}, {4, 19}, {4, 100}};
        BoltsByOrder x = new BoltsByOrder();
        for (int[] row : rows) {
            due.refused(x, "cloud(" + row[0] + ", " + row[1] + ")", () -> x.cloud(row[0], row[1]), Due.BEYOND);
        }
    }

    @Sentence(of = 3, says = "It, what as of cloud() (any number).")
    static void eachPartIsToldAtFirstAndBelow0(Due due) {
        BoltsByOrder x = new BoltsByOrder();
        int[] first = {0, 0, 1, 20, 60};
        for (int what = 0; what < 5; what++) {
            int asked = what;
            due.answers(x, "cloudOf(" + what + ")", () -> x.cloudOf(asked), first[what]);
        }
        x.cloud(2, -1);
        due.answers(x, "cloudOf(2)", () -> x.cloudOf(2), -1);
    }

    @Sentence(of = 3, says = "BEYOND.")
    static void anotherWhatOfCloudOfIsRefused(Due due) {
        BoltsByOrder x = new BoltsByOrder();
        for (int what : new int[] {LEAST, -1, 5, MOST}) {
            due.refused(x, "cloudOf(" + what + ")", () -> x.cloudOf(what), Due.BEYOND);
        }
    }

    // ---- rods

    @Sentence(of = 4, says = "A new ROD in a PLACE: the number.")
    static void numbersAre0To7(Due due) {
        BoltsByOrder x = new BoltsByOrder();
        for (int i = 0; i < 8; i++) {
            due.is("rod(5, " + (15 - i) + ")", x.rod(5, 15 - i), i);
            due.is("of(" + i + ", 1)", x.of(i, 1), 15 - i);
        }
    }

    @Sentence(of = 4, says = "A new ROD in a PLACE: the number.")
    static void aRodBehindOneThatWasTakenDownIsNew(Due due) {
        BoltsByOrder x = withRods(4);
        x.set(0, 2, 60);
        x.pays(0, 23, 22);
        x.cloud(1, 60);
        x.hours(1);
        due.is("down(0)", x.down(0), 27);
        due.is("rod(0, 15)", x.rod(0, 15), 0);
        int[] fresh = {0, 15, 10, 0, 0, 0, 0};
        for (int what = 0; what < 7; what++) {
            due.is("of(0, " + what + ")", x.of(0, what), fresh[what]);
        }
    }

    @Sentence(of = 4, says = "BEYOND: kind, place.")
    static void aKindOrAPlaceThatIsNoneIsRefused(Due due) {
        BoltsByOrder x = new BoltsByOrder();
        for (int kind : new int[] {LEAST, -1, 6, MOST}) {
            due.refused(x, "rod(" + kind + ", 15)", () -> x.rod(kind, 15), Due.BEYOND);
        }
        for (int place : new int[] {LEAST, -1, 16, MOST}) {
            due.refused(x, "rod(5, " + place + ")", () -> x.rod(5, place), Due.BEYOND);
        }
        due.is("rod(0, 0)", x.rod(0, 0), 0);
        due.is("rod(5, 15)", x.rod(5, 15), 1);
    }

    @Sentence(of = 4, says = "FULL.")
    static void a9thIsRefusedUntilOneIsTakenDown(Due due) {
        BoltsByOrder x = withRods(0, 1, 2, 3, 4, 5, 0);
        due.is("an 8th", x.rod(1, 1), 7);
        due.refused(x, "a 9th", () -> x.rod(1, 1), Due.FULL);
        x.down(3);
        due.is("an 8th again", x.rod(3, 2), 7);
        due.is("a 9th again", x.rod(3, 2), Due.FULL);
    }

    @Sentence(of = 5, says = "Of a ROD: what 0 KIND, 1 PLACE, 2 HEIGHT, 3 FROM, 4 TO, 5 BILL, 6 BOLTS")
    static void theFirstAndTheLastRodAreTold(Due due) {
        BoltsByOrder x = withRods(0, 0, 0, 0, 0, 0, 0, 5);
        x.set(7, 1, 15);
        x.set(7, 2, 60);
        x.pays(7, 23, 22);
        int[] last = {5, 15, 60, 23, 22, 0, 0};
        int[] first = {0, 0, 10, 0, 0, 0, 0};
        for (int what = 0; what < 7; what++) {
            due.is("of(0, " + what + ")", x.of(0, what), first[what]);
            due.is("of(7, " + what + ")", x.of(7, what), last[what]);
        }
    }

    @Sentence(of = 5, says = "7 what it DRAWS now")
    static void drawsNowAreThoseOfTheCloudsPlace(Due due) {
        BoltsByOrder x = withRods(0);
        due.is("of(0, 7) by 0", x.of(0, 7), 10);
        x.cloud(0, 2);
        due.is("of(0, 7) by 2", x.of(0, 7), 2);
        x.cloud(0, 3);
        due.is("of(0, 7) by 3", x.of(0, 7), 0);
        x.cloud(0, 15);
        due.is("of(0, 7) by 15", x.of(0, 7), 0);
    }

    @Sentence(of = 5, says = "8 what it would OWE for a bolt of all CHARGE now")
    static void whatItWouldOweAlsoBelowBreaks(Due due) {
        BoltsByOrder x = withRods(0);
        x.pays(0, 0, 1);
        due.is("of(0, 8) of 0", x.of(0, 8), 0);
        x.cloud(1, 1);
        due.is("of(0, 8) of 1", x.of(0, 8), 1);
        x.cloud(1, 99);
        due.is("of(0, 8) of 99", x.of(0, 8), 99);
        x.set(0, 2, 0);
        due.is("of(0, 8) of one that DRAWS nothing", x.of(0, 8), 99);
        due.is("of(0, 5)", x.of(0, 5), 0);
    }

    @Sentence(of = 5, says = "9 1 if the hour is PAID now, else 0.")
    static void thePaidHourBeginsAtFromAndEndsAtTo(Due due) {
        BoltsByOrder x = withRods(0);
        x.pays(0, 1, 2);
        due.is("of(0, 9) ahead of FROM", x.of(0, 9), 0);
        x.hours(1);
        due.is("of(0, 9) at FROM", x.of(0, 9), 1);
        x.hours(1);
        due.is("of(0, 9) at TO", x.of(0, 9), 0);
    }

    @Sentence(of = 5, says = "BEYOND.")
    static void ofNoSuchRodOrWhatIsRefused(Due due) {
        int[][] rows = {{LEAST, 0}, {-1, 0}, {2, 0}, {8, 0}, {MOST, 0}, {1, LEAST}, {1, -1}, {1, 10}, {1, MOST}};
        for (int[] row : rows) {
            BoltsByOrder x = withRods(0, 1);
            due.refused(x, "of(" + row[0] + ", " + row[1] + ")", () -> x.of(row[0], row[1]), Due.BEYOND);
        }
    }

    @Sentence(of = 6, says = "PLACE (what 1), HEIGHT (2) of a ROD becomes v: what it was.")
    static void placeAndHeightBecomeTheirLeastAndMost(Due due) {
        BoltsByOrder x = withRods(0, 0);
        due.is("set(1, 1, 15)", x.set(1, 1, 15), 0);
        due.is("set(1, 1, 0)", x.set(1, 1, 0), 15);
        due.is("set(1, 2, 60)", x.set(1, 2, 60), 10);
        due.is("set(1, 2, 0)", x.set(1, 2, 0), 60);
        due.is("set(1, 2, 0)", x.set(1, 2, 0), 0);
        due.is("of(0, 2)", x.of(0, 2), 10);
    }

    @Sentence(of = 6, says = "BEYOND.")
    static void setOfNoSuchRodWhatOrNumberIsRefused(Due due) {
        int[][] rows = {{-1, 1, 1}, {2, 1, 1}, {LEAST, 2, 1}, {MOST, 2, 1}, {1, 0, 1}, {1, 3, 1}, {1, -1, 1}, {1, LEAST, 1},
            {1, MOST, 1}, {1, 1, -1}, {1, 1, 16}, {1, 1, LEAST}, {1, 1, MOST}, {1, 2, -1}, {1, 2, 61}, {1, 2, LEAST}, {1, 2, MOST}};
        for (int[] row : rows) {
            BoltsByOrder x = withRods(0, 1);
            due.refused(x, "set(" + row[0] + ", " + row[1] + ", " + row[2] + ")", () -> x.set(row[0], row[1], row[2]), Due.BEYOND);
        }
    }

    @Sentence(of = 7, says = "PAID hours of a ROD become others: how many there are then.")
    static void thereAre0To23PaidHours(Due due) {
        BoltsByOrder x = withRods(0);
        int[][] rows = {{0, 0, 0}, {23, 23, 0}, {0, 1, 1}, {23, 0, 1}, {0, 23, 23}, {1, 0, 23}, {12, 11, 23}, {22, 4, 6}};
        for (int[] row : rows) {
            due.is("pays(0, " + row[0] + ", " + row[1] + ")", x.pays(0, row[0], row[1]), row[2]);
            due.is("of(0, 3)", x.of(0, 3), row[0]);
            due.is("of(0, 4)", x.of(0, 4), row[1]);
        }
    }

    @Sentence(of = 7, says = "BEYOND.")
    static void paysOfNoSuchRodOrClockIsRefused(Due due) {
        int[][] rows = {{-1, 1, 2}, {1, 1, 2}, {LEAST, 1, 2}, {MOST, 1, 2}, {0, -1, 2}, {0, 24, 2}, {0, LEAST, 2}, {0, MOST, 2},
            {0, 1, -1}, {0, 1, 24}, {0, 1, LEAST}, {0, 1, MOST}, {0, 24, 24}, {0, -1, -1}};
        for (int[] row : rows) {
            BoltsByOrder x = withRods(0);
            x.pays(0, 3, 9);
            due.refused(x, "pays(" + row[0] + ", " + row[1] + ", " + row[2] + ")", () -> x.pays(row[0], row[1], row[2]), Due.BEYOND);
        }
    }

    @Sentence(of = 8, says = "A ROD becomes one of another KIND: what it was.")
    static void theFirstAndTheLastKind(Due due) {
        BoltsByOrder x = withRods(0);
        x.pays(0, 1, 2);
        x.set(0, 2, 33);
        due.is("turn(0, 5)", x.turn(0, 5), 0);
        due.is("turn(0, 0)", x.turn(0, 0), 5);
        due.is("turn(0, 0) once more", x.turn(0, 0), 0);
        due.is("HEIGHT stays", x.of(0, 2), 33);
        due.is("FROM stays", x.of(0, 3), 1);
    }

    @Sentence(of = 8, says = "BEYOND.")
    static void turnOfNoSuchRodOrKindIsRefused(Due due) {
        int[][] rows = {{-1, 0}, {1, 0}, {LEAST, 0}, {MOST, 0}, {0, -1}, {0, 6}, {0, LEAST}, {0, MOST}};
        for (int[] row : rows) {
            BoltsByOrder x = withRods(3);
            due.refused(x, "turn(" + row[0] + ", " + row[1] + ")", () -> x.turn(row[0], row[1]), Due.BEYOND);
        }
    }

    @Sentence(of = 9, says = "A ROD as one of a kind: HEIGHT.")
    static void heightAsOneOfAKindIs0To60(Due due) {
        BoltsByOrder x = withRods(4);
        x.set(0, 2, 0);
        due.is("as(0, 0)", x.as(0, 0), 0);
        x.set(0, 2, 60);
        due.is("as(0, 1)", x.as(0, 1), 60);
        due.is("as(0, 4)", x.as(0, 4), 60);
    }

    @Sentence(of = 9, says = "BEYOND: no such one, kind.")
    static void asOfNoSuchRodOrKindIsRefused(Due due) {
        int[][] rows = {{-1, 0}, {1, 0}, {LEAST, 0}, {MOST, 0}, {0, -1}, {0, 6}, {0, LEAST}, {0, MOST}, {1, 1}};
        for (int[] row : rows) {
            BoltsByOrder x = withRods(0);
            due.refused(x, "as(" + row[0] + ", " + row[1] + ")", () -> x.as(row[0], row[1]), Due.BEYOND);
        }
    }

    @Sentence(of = 9, says = "KIND: it isn't of that kind, nor of one under it.")
    static void asOfAKindThatItIsNotIsRefused(Due due) {
        // Those that ROD, COPPER, KITE, OAK, CATHEDRAL, POACHER are not, nor are under.
        int[][] rows = {{1, 2, 3, 4, 5}, {2, 3, 4, 5}, {1, 3, 4, 5}, {1, 2, 4, 5}, {2, 3, 5}, {1, 3, 4}};
        for (int own = 0; own < 6; own++) {
            for (int kind : rows[own]) {
                BoltsByOrder x = withRods(own);
                due.refused(x, "KIND " + own + ": as(0, " + kind + ")", () -> x.as(0, kind), Due.KIND);
            }
            BoltsByOrder x = withRods(own);
            due.is("KIND " + own + ": as(0, " + own + ")", x.as(0, own), 10);
            due.is("KIND " + own + ": as(0, 0)", x.as(0, 0), 10);
        }
    }

    @Sentence(of = 10, says = "A ROD is taken down; those behind it close up: its BILL.")
    static void theFirstTheLastAndTheOnlyOneAreTakenDown(Due due) {
        BoltsByOrder x = withRods(0, 1, 2, 3, 4, 5, 0, 1);
        for (int i = 0; i < 8; i++) {
            x.set(i, 2, 20 + i);
        }
        due.is("down(0)", x.down(0), 0);
        due.is("HEIGHT of ROD 0", x.of(0, 2), 21);
        due.is("down(6), the last", x.down(6), 0);
        due.is("HEIGHT of ROD 5", x.of(5, 2), 26);
        due.is("of(6, 2)", x.of(6, 2), Due.BEYOND);
        due.is("down(2)", x.down(2), 0);
        int[] left = {21, 22, 24, 25, 26};
        for (int i = 0; i < 5; i++) {
            due.is("HEIGHT of ROD " + i, x.of(i, 2), left[i]);
        }
        for (int i = 5; i > 0; i--) {
            due.is("count(0)", x.count(0), i);
            x.down(0);
        }
        due.is("count(0)", x.count(0), 0);
        due.is("down(0) of none", x.down(0), Due.BEYOND);
    }

    @Sentence(of = 10, says = "A ROD is taken down; those behind it close up: its BILL.")
    static void aBillOf0AndOneThatIsOwed(Due due) {
        BoltsByOrder x = withRods(0, 0);
        x.pays(0, 0, 1);
        x.cloud(1, 60);
        x.hours(1);
        due.is("down(1)", x.down(1), 0);
        due.is("down(0)", x.down(0), 60);
    }

    @Sentence(of = 10, says = "BEYOND.")
    static void downOfNoSuchRodIsRefused(Due due) {
        BoltsByOrder x = withRods(0, 1);
        for (int rod : new int[] {LEAST, -1, 2, 8, MOST}) {
            due.refused(x, "down(" + rod + ")", () -> x.down(rod), Due.BEYOND);
        }
    }

    @Sentence(of = 11, says = "BILL of a ROD is paid, and 0 then: how much.")
    static void theLeastAndTheGreatestBillArePaid(Due due) {
        BoltsByOrder x = withRods(0);
        due.is("settle(0) of nothing", x.settle(0), 0);
        x.pays(0, 0, 23);
        x.cloud(1, 50);
        x.cloud(2, 0);
        x.cloud(3, 50);
        x.cloud(4, 20);
        Due.goTo(x, 2200);
        due.is("settle(0)", x.settle(0), 99999);
        due.is("of(0, 5)", x.of(0, 5), 0);
        due.is("settle(0) once more", x.settle(0), 0);
        due.is("BOLTS stay", x.of(0, 6), 2200);
        due.is("hours(1)", x.hours(1), 50);
    }

    @Sentence(of = 11, says = "BEYOND.")
    static void settleOfNoSuchRodIsRefused(Due due) {
        BoltsByOrder x = withRods(0, 1);
        for (int rod : new int[] {LEAST, -1, 2, 8, MOST}) {
            due.refused(x, "settle(" + rod + ")", () -> x.settle(rod), Due.BEYOND);
        }
    }
}
