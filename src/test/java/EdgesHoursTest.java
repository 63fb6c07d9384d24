/** Boundary cases of promises 12 to 16: hours, days by draws, what is now, what goes on. */
public final class EdgesHoursTest {
    private static final int LEAST = Integer.MIN_VALUE;
    private static final int MOST = Integer.MAX_VALUE;

    public static void main(String[] args) throws Exception {
        Edges.run(12, 16, EdgesHoursTest.class);
    }

    /** RODS in PLACE 0, the first of which is struck by a bolt of 50 in each hour; the CLOCK 23 alone isn't PAID. */
    private static BoltsByOrder struckInEachHour(int rods) {
        BoltsByOrder x = new BoltsByOrder();
        for (int i = 0; i < rods; i++) {
            x.rod(0, 0);
            x.pays(i, 0, 23);
        }
        x.cloud(1, 50);
        x.cloud(2, 0);
        x.cloud(3, 50);
        x.cloud(4, 20);
        return x;
    }

    private static BoltsByOrder inHour(int hour) {
        BoltsByOrder x = new BoltsByOrder();
        Due.goTo(x, hour);
        return x;
    }

    // ---- hours

    @Sentence(of = 12, says = "n HOURS go (1 to 100)")
    static void oneHourOr100(Due due) {
        BoltsByOrder x = struckInEachHour(1);
        due.is("hours(1)", x.hours(1), 50);
        due.is("now(0)", x.now(0), 1);
        due.is("hours(100): 96 of them are PAID", x.hours(100), 50 * 97);
        due.is("now(0)", x.now(0), 101);
        due.is("of(0, 6)", x.of(0, 6), 101);
    }

    @Sentence(of = 12, says = "BILLS of all together then.")
    static void billsOfNoneAreNothing(Due due) {
        BoltsByOrder x = new BoltsByOrder();
        due.is("hours(100)", x.hours(100), 0);
        due.is("now(4)", x.now(4), 33 * 60);
    }

    @Sentence(of = 12, says = "BILLS of all together then.")
    static void billsOfAllTogetherAreNotHeld(Due due) {
        BoltsByOrder x = struckInEachHour(2);
        Due.goTo(x, 2200);
        due.is("BILL of ROD 0", x.of(0, 5), 99999);
        x.set(0, 2, 0);
        Due.goTo(x, 4399);
        due.is("hours(1)", x.hours(1), 199998);
        due.is("now(2)", x.now(2), 199998);
    }

    @Sentence(of = 12, says = "BEYOND.")
    static void noHourOrMoreThan100IsRefused(Due due) {
        BoltsByOrder x = struckInEachHour(1);
        for (int n : new int[] {LEAST, -100, -1, 0, 101, MOST}) {
            due.refused(x, "hours(" + n + ")", () -> x.hours(n), Due.BEYOND);
        }
    }

    @Sentence(of = 12, says = "STATE: HOUR would be above 9999.")
    static void hoursEndJustAt9999(Due due) {
        BoltsByOrder x = inHour(9899);
        x.image();
        due.is("hours(100) in HOUR 9899", x.hours(100), 0);
        due.is("now(0)", x.now(0), 9999);
        due.refused(x, "hours(1) in HOUR 9999", () -> x.hours(1), Due.STATE);
        due.refused(x, "hours(100) in HOUR 9999", () -> x.hours(100), Due.STATE);
        due.is("undo()", x.undo(), 0);
        due.is("now(0)", x.now(0), 9899);
    }

    @Sentence(of = 12, says = "STATE: HOUR would be above 9999.")
    static void hoursThatGoTooFarAreRefusedWhole(Due due) {
        BoltsByOrder x = inHour(9900);
        due.refused(x, "hours(100) in HOUR 9900", () -> x.hours(100), Due.STATE);
        due.is("now(0)", x.now(0), 9900);
        due.is("hours(99)", x.hours(99), 0);
        due.is("now(0)", x.now(0), 9999);
    }

    // ---- days by draws

    @Sentence(of = 13, says = "n DAYS by draws (1 to 4): likewise.")
    static void oneDayOr4(Due due) {
        BoltsByOrder x = struckInEachHour(1);
        x.set(0, 2, 60);
        x.turn(0, 2);
        due.is("days(1)", x.days(1), 50 * 23);
        due.is("now(0)", x.now(0), 24);
        due.is("days(4)", x.days(4), 50 * 23 * 5);
        due.is("now(0)", x.now(0), 120);
        due.is("z behind 5 draws", x.seed(0), -112468174);
        due.is("DRIFT by the 5th", x.cloudOf(2), 0);
    }

    @Sentence(of = 13, says = "n DAYS by draws (1 to 4): likewise.")
    static void billsOfNoneAreNothingByDays(Due due) {
        BoltsByOrder x = new BoltsByOrder();
        due.is("days(4)", x.days(4), 0);
        due.is("now(0)", x.now(0), 96);
    }

    @Sentence(of = 13, says = "BEYOND.")
    static void noDayOrMoreThan4IsRefused(Due due) {
        BoltsByOrder x = struckInEachHour(1);
        for (int n : new int[] {LEAST, -1, 0, 5, 178956971, MOST}) {
            due.refused(x, "days(" + n + ")", () -> x.days(n), Due.BEYOND);
        }
    }

    @Sentence(of = 13, says = "STATE.")
    static void daysEndJustAt9999(Due due) {
        BoltsByOrder x = inHour(9903);
        x.image();
        due.is("days(4) in HOUR 9903", x.days(4), 0);
        due.is("now(0)", x.now(0), 9999);
        due.refused(x, "days(1) in HOUR 9999", () -> x.days(1), Due.STATE);
        x.undo();
        due.is("hours(1)", x.hours(1), 0);
        due.refused(x, "days(4) in HOUR 9904", () -> x.days(4), Due.STATE);
        due.is("days(3) in HOUR 9904", x.days(3), 0);
        due.is("now(0)", x.now(0), 9976);
        due.refused(x, "days(1) in HOUR 9976", () -> x.days(1), Due.STATE);
        due.is("z behind 3 draws: none for those that were refused", x.seed(0), 662824084);
    }

    @Sentence(of = 13, says = "STATE.")
    static void oneDayEndsJustAt9999(Due due) {
        BoltsByOrder x = inHour(9975);
        due.is("days(1) in HOUR 9975", x.days(1), 0);
        due.is("now(0)", x.now(0), 9999);
    }

    // ---- seed

    @Sentence(of = 14, says = "z becomes v: what it was (any number).")
    static void anyNumberIsASeedAndNoFinding(Due due) {
        BoltsByOrder x = new BoltsByOrder();
        int was = 1;
        for (int v : new int[] {LEAST, MOST, 0, -1, Due.BEYOND, Due.SIZE, -1000000000, -1000000008}) {
            int before = was;
            due.answers(x, "seed(" + v + ")", () -> x.seed(v), before);
            was = v;
        }
        int last = was;
        due.answers(x, "seed(1)", () -> x.seed(1), last);
    }

    // ---- now

    @Sentence(of = 15, says = "What 0 HOUR, 1 CLOCK, 2 BILLS of all, 3 BOLTS of all, 4 STRAYS, 5 RODS whose hour is PAID now, as a set.")
    static void allAre0WhenNothingIsThereYet(Due due) {
        BoltsByOrder x = new BoltsByOrder();
        for (int what = 0; what <= 5; what++) {
            due.is("now(" + what + ")", x.now(what), 0);
        }
    }

    @Sentence(of = 15, says = "What 0 HOUR, 1 CLOCK, 2 BILLS of all, 3 BOLTS of all, 4 STRAYS")
    static void theGreatestHourAndItsClock(Due due) {
        BoltsByOrder x = struckInEachHour(8);
        Due.goTo(x, 9999);
        due.is("now(0)", x.now(0), 9999);
        due.is("now(1)", x.now(1), 15);
        due.is("now(2)", x.now(2), 99999);
        due.is("now(3)", x.now(3), 9999);
        due.is("now(4): 416 bolts that weren't PAID", x.now(4), 20800);
        due.is("now(5)", x.now(5), 255);
    }

    @Sentence(of = 15, says = "5 RODS whose hour is PAID now, as a set.")
    static void noneOrAllOf8ArePaid(Due due) {
        BoltsByOrder x = struckInEachHour(8);
        due.is("now(5) at 0", x.now(5), 255);
        x.pays(0, 1, 0);
        due.is("now(5) without ROD 0", x.now(5), 254);
        x.pays(7, 0, 0);
        due.is("now(5) without ROD 7", x.now(5), 126);
        Due.goTo(x, 23);
        due.is("now(5) at 23", x.now(5), 1);
    }

    @Sentence(of = 15, says = "BEYOND.")
    static void anotherWhatOfNowIsRefused(Due due) {
        BoltsByOrder x = struckInEachHour(1);
        for (int what : new int[] {LEAST, -1, 6, MOST}) {
            due.refused(x, "now(" + what + ")", () -> x.now(what), Due.BEYOND);
        }
    }

    // ---- on

    @Sentence(of = 16, says = "BILL (what 0), BOLTS (1) of a ROD ON n HOURS (0 to 100).")
    static void on0HoursIsAsItIs(Due due) {
        BoltsByOrder x = struckInEachHour(1);
        due.is("on(0, 0, 0) at first", x.on(0, 0, 0), 0);
        due.is("on(0, 0, 1) at first", x.on(0, 0, 1), 0);
        x.hours(2);
        due.is("on(0, 0, 0)", x.on(0, 0, 0), 100);
        due.is("on(0, 0, 1)", x.on(0, 0, 1), 2);
        due.is("on(0, 1, 0)", x.on(0, 1, 0), 150);
        due.is("on(0, 1, 1)", x.on(0, 1, 1), 3);
    }

    @Sentence(of = 16, says = "BILL (what 0), BOLTS (1) of a ROD ON n HOURS (0 to 100).")
    static void on100HoursIsAsIfTheyWent(Due due) {
        BoltsByOrder x = struckInEachHour(1);
        int bill = x.on(0, 100, 0);
        int bolts = x.on(0, 100, 1);
        due.is("now(0)", x.now(0), 0);
        due.is("on(0, 100, 0)", bill, 50 * 96);
        due.is("on(0, 100, 1)", bolts, 100);
        due.is("hours(100)", x.hours(100), bill);
        due.is("of(0, 6)", x.of(0, 6), bolts);
    }

    @Sentence(of = 16, says = "BILL (what 0), BOLTS (1) of a ROD ON n HOURS (0 to 100).")
    static void aBillOnIsHeldTo99999(Due due) {
        BoltsByOrder x = struckInEachHour(1);
        Due.goTo(x, 2085);
        due.is("on(0, 0, 0)", x.on(0, 0, 0), 99950);
        due.is("on(0, 1, 0)", x.on(0, 1, 0), 99999);
        due.is("on(0, 100, 0)", x.on(0, 100, 0), 99999);
    }

    /** Only hours() and days() are refused for STATE: what goes on has no end at 9999. */
    @Sentence(of = 16, says = "BILL (what 0), BOLTS (1) of a ROD ON n HOURS (0 to 100).")
    static void onGoesBehindHour9999(Due due) {
        BoltsByOrder x = struckInEachHour(1);
        Due.goTo(x, 9999);
        x.settle(0);
        due.is("on(0, 100, 1)", x.on(0, 100, 1), 10099);
        due.is("on(0, 8, 0): the CLOCK 15 to 22", x.on(0, 8, 0), 400);
        due.is("on(0, 9, 0): and 23, which isn't PAID", x.on(0, 9, 0), 400);
        due.is("on(0, 10, 0): and 0", x.on(0, 10, 0), 450);
        due.is("status(-1)", x.status(-1), 0);
    }

    @Sentence(of = 16, says = "BEYOND.")
    static void onOfNoSuchRodNumberOrWhatIsRefused(Due due) {
        int[][] rows = {{-1, 1, 0}, {1, 1, 0}, {LEAST, 1, 0}, {MOST, 1, 0}, {0, -1, 0}, {0, 101, 0}, {0, LEAST, 0}, {0, MOST, 0},
            {0, 1, -1}, {0, 1, 2}, {0, 1, LEAST}, {0, 1, MOST}};
        for (int[] row : rows) {
            BoltsByOrder x = struckInEachHour(1);
            due.refused(x, "on(" + row[0] + ", " + row[1] + ", " + row[2] + ")", () -> x.on(row[0], row[1], row[2]), Due.BEYOND);
        }
    }
}
