/** Boundary cases of promises 17 to 24: whom the next bolt strikes, how high one must be, where one had best stand. */
public final class EdgesNextBoltTest {
    private static final int LEAST = Integer.MIN_VALUE;
    private static final int MOST = Integer.MAX_VALUE;
    private static final int ROD = 0;
    private static final int COPPER = 1;
    private static final int KITE = 2;
    private static final int OAK = 3;
    private static final int CATHEDRAL = 4;
    private static final int POACHER = 5;

    public static void main(String[] args) throws Exception {
        Edges.run(17, 24, EdgesNextBoltTest.class);
    }

    private static void add(BoltsByOrder x, int kind, int place, int height) {
        int rod = x.rod(kind, place);
        x.set(rod, 2, height);
    }

    /** The cloud stands above a PLACE, and strikes there in the hour that goes next. */
    private static BoltsByOrder strikingAt(int place) {
        BoltsByOrder x = new BoltsByOrder();
        x.cloud(0, place);
        x.cloud(1, 60);
        x.cloud(2, 0);
        return x;
    }

    /** The cloud stands above a PLACE, and its first bolt is one of the last of so many hours. */
    private static BoltsByOrder strikingInTheLastOf(int hours, int place) {
        BoltsByOrder x = new BoltsByOrder();
        x.cloud(0, place);
        x.cloud(2, 0);
        x.cloud(3, 1);
        x.cloud(4, hours - 1);
        return x;
    }

    /** A bolt in each hour; ROD 0 is struck in PLACES 0 to 3, ROD 1 in 12 to 15, ROD 2, a COPPER, between. */
    private static BoltsByOrder twoThieves(int place) {
        BoltsByOrder x = new BoltsByOrder();
        add(x, ROD, 0, 20);
        add(x, ROD, 15, 20);
        add(x, COPPER, 8, 0);
        x.cloud(0, place);
        x.cloud(1, 50);
        x.cloud(3, 50);
        x.cloud(4, 20);
        return x;
    }

    // ---- next

    @Sentence(of = 17, says = "THE NEXT BOLT: what 0 in how many HOURS it strikes (0: in the HOUR that goes next)")
    static void aBoltInTheHourThatGoesNext(Due due) {
        BoltsByOrder x = new BoltsByOrder();
        x.cloud(1, 60);
        due.is("next(0) by CHARGE 60", x.next(0), 0);
        x.cloud(1, 59);
        due.is("next(0) by CHARGE 59", x.next(0), 1);
        x.cloud(1, 0);
        due.is("next(0) by CHARGE 0", x.next(0), 3);
    }

    @Sentence(of = 17, says = "THE NEXT BOLT: what 0 in how many HOURS it strikes (0: in the HOUR that goes next)")
    static void aBoltInTheLastOf100Hours(Due due) {
        BoltsByOrder x = strikingInTheLastOf(100, 0);
        due.is("next(0)", x.next(0), 99);
        x.hours(99);
        due.is("next(0) then", x.next(0), 0);
        due.is("now(4) ahead of it", x.now(4), 0);
        x.hours(1);
        due.is("now(4) behind it", x.now(4), 99);
    }

    @Sentence(of = 17, says = "THE NEXT BOLT: what 0 in how many HOURS it strikes (0: in the HOUR that goes next)")
    static void aBoltBehindHour9999IsToldToo(Due due) {
        BoltsByOrder x = new BoltsByOrder();
        Due.goTo(x, 9999);
        x.cloud(1, 0);
        due.is("next(0)", x.next(0), 3);
        x.cloud(1, 60);
        due.is("next(0)", x.next(0), 0);
    }

    @Sentence(of = 17, says = "1 the ROD (-1: none)")
    static void aBoltThatStrikesNoneIsNoFinding(Due due) {
        BoltsByOrder x = strikingAt(0);
        due.answers(x, "next(1), no RODS", () -> x.next(1), -1);
        add(x, ROD, 0, 0);
        due.answers(x, "next(1), none DRAWS", () -> x.next(1), -1);
        add(x, ROD, 0, 1);
        due.answers(x, "next(1), one DRAWS 1", () -> x.next(1), 1);
        add(x, ROD, 0, 1);
        due.answers(x, "next(1), two DRAW 1", () -> x.next(1), 1);
    }

    @Sentence(of = 17, says = "2 its CHARGE")
    static void theChargeOfTheNextBoltIsAtMost99(Due due) {
        BoltsByOrder x = new BoltsByOrder();
        x.cloud(3, 50);
        x.cloud(4, 99);
        due.is("next(0)", x.next(0), 2);
        due.is("next(2)", x.next(2), 99);
        x.cloud(4, 20);
        x.cloud(1, 20);
        due.is("next(2), the least", x.next(2), 20);
    }

    @Sentence(of = 17, says = "3 THE CLOUD's PLACE then.")
    static void theCloudTurnsAboutAheadOfTheNextBolt(Due due) {
        BoltsByOrder x = new BoltsByOrder();
        due.is("next(3)", x.next(3), 3);
        x.cloud(0, 14);
        due.is("next(3) by way of 15 and 15", x.next(3), 14);
        x.cloud(0, 0);
        x.cloud(2, -1);
        due.is("next(3) by way of 0 and 1", x.next(3), 2);
        x.cloud(1, 60);
        due.is("next(3) at once", x.next(3), 0);
    }

    @Sentence(of = 17, says = "BEYOND.")
    static void anotherWhatOfNextIsRefused(Due due) {
        BoltsByOrder x = new BoltsByOrder();
        for (int what : new int[] {LEAST, -1, 4, MOST}) {
            due.refused(x, "next(" + what + ")", () -> x.next(what), Due.BEYOND);
        }
        x.cloud(3, 0);
        due.refused(x, "next(4), no bolt", () -> x.next(4), Due.BEYOND);
    }

    @Sentence(of = 17, says = "NONE.")
    static void noNextBoltIfTheCloudDoesNotGrow(Due due) {
        BoltsByOrder x = new BoltsByOrder();
        x.cloud(3, 0);
        x.cloud(1, 59);
        for (int what = 0; what <= 3; what++) {
            int asked = what;
            due.refused(x, "next(" + what + ")", () -> x.next(asked), Due.NONE);
        }
        x.cloud(1, 60);
        due.is("next(0)", x.next(0), 0);
    }

    // ---- struck, reach

    @Sentence(of = 18, says = "The ROD that would be struck, were THE CLOUD in a PLACE (-1: none).")
    static void noneIsStruckWhereNoneDraws(Due due) {
        BoltsByOrder x = new BoltsByOrder();
        due.answers(x, "struck(0), no RODS", () -> x.struck(0), -1);
        due.answers(x, "struck(15), no RODS", () -> x.struck(15), -1);
        add(x, ROD, 0, 60);
        due.answers(x, "struck(0)", () -> x.struck(0), 0);
        due.answers(x, "struck(14) by 4", () -> x.struck(14), 0);
        due.answers(x, "struck(15) by 0", () -> x.struck(15), -1);
    }

    @Sentence(of = 18, says = "The ROD that would be struck, were THE CLOUD in a PLACE (-1: none).")
    static void theLeastOfSeveralWouldBeStruck(Due due) {
        BoltsByOrder x = new BoltsByOrder();
        add(x, ROD, 0, 20);
        add(x, ROD, 4, 20);
        due.is("struck(1)", x.struck(1), 0);
        due.is("struck(2), both by 12", x.struck(2), 0);
        due.is("struck(3)", x.struck(3), 1);
    }

    @Sentence(of = 18, says = "BEYOND.")
    static void struckInNoPlaceIsRefused(Due due) {
        BoltsByOrder x = new BoltsByOrder();
        add(x, COPPER, 0, 10);
        for (int place : new int[] {LEAST, -1, 16, MOST}) {
            due.refused(x, "struck(" + place + ")", () -> x.struck(place), Due.BEYOND);
        }
    }

    @Sentence(of = 19, says = "PLACES above which a ROD is the one that is struck, as a set.")
    static void noPlaceOrAll16(Due due) {
        BoltsByOrder x = new BoltsByOrder();
        add(x, COPPER, 8, 0);
        add(x, COPPER, 8, 0);
        due.is("reach(0), which is the least", x.reach(0), 65535);
        due.is("reach(1), which never is struck", x.reach(1), 0);
    }

    @Sentence(of = 19, says = "PLACES above which a ROD is the one that is struck, as a set.")
    static void oneAtEachEnd(Due due) {
        BoltsByOrder x = new BoltsByOrder();
        add(x, ROD, 0, 1);
        add(x, ROD, 15, 5);
        add(x, ROD, 15, 0);
        due.is("reach(0)", x.reach(0), 1);
        due.is("reach(1)", x.reach(1), 32768 + 16384);
        due.is("reach(2), which DRAWS nothing", x.reach(2), 0);
    }

    @Sentence(of = 19, says = "BEYOND.")
    static void reachOfNoSuchRodIsRefused(Due due) {
        BoltsByOrder x = new BoltsByOrder();
        due.refused(x, "reach(0), no RODS", () -> x.reach(0), Due.BEYOND);
        add(x, COPPER, 0, 10);
        for (int rod : new int[] {LEAST, -1, 1, MOST}) {
            due.refused(x, "reach(" + rod + ")", () -> x.reach(rod), Due.BEYOND);
        }
    }

    // ---- steals, ducks

    @Sentence(of = 20, says = "The least HEIGHT (0 to 60), in place of its own, by which THE NEXT BOLT strikes a ROD.")
    static void theLeastHeightOfEachKindAlone(Due due) {
        // by no PLACE between, and by 15; -1 is none
        int[][] rows = {{1, -1}, {0, 0}, {1, 1}, {4, -1}, {0, 0}, {6, 11}};
        for (int kind = 0; kind < 6; kind++) {
            for (int far = 0; far <= 1; far++) {
                BoltsByOrder x = strikingAt(15 * far);
                add(x, kind, 0, 33);
                int want = rows[kind][far];
                due.is("steals(0) of KIND " + kind + " by " + 15 * far, x.steals(0), want < 0 ? Due.NONE : want);
                due.is("its own HEIGHT stays", x.of(0, 2), 33);
            }
        }
    }

    @Sentence(of = 20, says = "The least HEIGHT (0 to 60), in place of its own, by which THE NEXT BOLT strikes a ROD.")
    static void theGreatestHeightByWhichOneSteals(Due due) {
        BoltsByOrder x = strikingAt(0);
        add(x, ROD, 0, 60);
        add(x, ROD, 0, 59);
        due.is("steals(0): as high as the other is enough for the least", x.steals(0), 59);
        x.set(1, 2, 60);
        due.is("steals(0)", x.steals(0), 60);
        x.set(0, 2, 59);
        due.is("steals(1): it must be higher", x.steals(1), 60);
        x.set(0, 2, 60);
        due.is("steals(1): it can't be higher", x.steals(1), Due.NONE);
    }

    @Sentence(of = 20, says = "The least HEIGHT (0 to 60), in place of its own, by which THE NEXT BOLT strikes a ROD.")
    static void theNextBoltIsWhereTheCloudIsThen(Due due) {
        BoltsByOrder x = new BoltsByOrder();
        add(x, ROD, 0, 10);
        due.is("steals(0), by 3 PLACES then", x.steals(0), 13);
        x.cloud(1, 60);
        due.is("steals(0), at once", x.steals(0), 1);
        x.cloud(0, 14);
        due.is("steals(0), by 14", x.steals(0), 57);
    }

    @Sentence(of = 20, says = "BEYOND.")
    static void stealsOfNoSuchRodIsRefused(Due due) {
        BoltsByOrder x = new BoltsByOrder();
        due.refused(x, "steals(0), no RODS", () -> x.steals(0), Due.BEYOND);
        add(x, COPPER, 0, 10);
        for (int rod : new int[] {LEAST, -1, 1, MOST}) {
            due.refused(x, "steals(" + rod + ")", () -> x.steals(rod), Due.BEYOND);
        }
    }

    @Sentence(of = 20, says = "NONE.")
    static void noneStealsABoltThatDoesNotCome(Due due) {
        BoltsByOrder x = new BoltsByOrder();
        add(x, COPPER, 0, 10);
        x.cloud(3, 0);
        due.refused(x, "steals(0), no bolt", () -> x.steals(0), Due.NONE);
    }

    @Sentence(of = 20, says = "NONE.")
    static void noHeightIsEnough(Due due) {
        BoltsByOrder x = strikingAt(15);
        add(x, ROD, 0, 10);
        due.refused(x, "steals(0) by 15 PLACES", () -> x.steals(0), Due.NONE);
        x.cloud(0, 14);
        due.is("steals(0) by 14 PLACES", x.steals(0), 57);
    }

    @Sentence(of = 21, says = "The greatest HEIGHT by which it doesn't.")
    static void justBelowTheOther(Due due) {
        BoltsByOrder x = strikingAt(0);
        add(x, ROD, 0, 20);
        add(x, ROD, 0, 20);
        due.is("ducks(0): it must be lower", x.ducks(0), 19);
        due.is("ducks(1): as high is enough", x.ducks(1), 20);
        due.is("HEIGHT stays", x.of(0, 2), 20);
    }

    @Sentence(of = 21, says = "The greatest HEIGHT by which it doesn't.")
    static void theLeastAndTheGreatestHeightByWhichOneDucks(Due due) {
        BoltsByOrder x = strikingAt(0);
        add(x, ROD, 0, 30);
        due.is("ducks(0) alone", x.ducks(0), 0);
        add(x, ROD, 0, 60);
        due.is("ducks(0)", x.ducks(0), 59);
        x.set(0, 2, 60);
        due.is("ducks(1)", x.ducks(1), 60);
        x.set(0, 2, 59);
        due.is("ducks(1)", x.ducks(1), 59);
    }

    @Sentence(of = 21, says = "The greatest HEIGHT by which it doesn't.")
    static void aBoltThatDoesNotComeStrikesNone(Due due) {
        BoltsByOrder x = new BoltsByOrder();
        add(x, COPPER, 0, 10);
        x.cloud(3, 0);
        due.answers(x, "ducks(0), no bolt", () -> x.ducks(0), 60);
    }

    @Sentence(of = 21, says = "BEYOND.")
    static void ducksOfNoSuchRodIsRefused(Due due) {
        BoltsByOrder x = new BoltsByOrder();
        due.refused(x, "ducks(0), no RODS", () -> x.ducks(0), Due.BEYOND);
        add(x, ROD, 0, 10);
        for (int rod : new int[] {LEAST, -1, 1, MOST}) {
            due.refused(x, "ducks(" + rod + ")", () -> x.ducks(rod), Due.BEYOND);
        }
    }

    @Sentence(of = 21, says = "NONE.")
    static void oneThatIsStruckByAnyHeightCannotDuck(Due due) {
        BoltsByOrder x = strikingAt(0);
        add(x, COPPER, 0, 60);
        due.refused(x, "ducks(0)", () -> x.ducks(0), Due.NONE);
        x.set(0, 1, 15);
        due.refused(x, "ducks(0) by 15 PLACES", () -> x.ducks(0), Due.NONE);
        add(x, COPPER, 15, 0);
        due.refused(x, "ducks(0), which is the least of two that DRAW 8", () -> x.ducks(0), Due.NONE);
        due.is("ducks(1), by 15 PLACES", x.ducks(1), 60);
    }

    // ---- place

    @Sentence(of = 22, says = "The PLACE by which most BOLTS strike a ROD ON n HOURS (0 to 100)")
    static void theLastOf100HoursCounts(Due due) {
        BoltsByOrder x = strikingInTheLastOf(100, 15);
        add(x, ROD, 3, 4);
        due.is("place(0, 0)", x.place(0, 0), 0);
        due.is("place(0, 99)", x.place(0, 99), 0);
        due.is("place(0, 100)", x.place(0, 100), 15);
        due.is("PLACE stays", x.of(0, 1), 3);
    }

    @Sentence(of = 22, says = "of several the least.")
    static void theLeastOfSeveralPlaces(Due due) {
        BoltsByOrder x = strikingAt(15);
        add(x, ROD, 15, 8);
        due.is("place(0, 1): 14 and 15", x.place(0, 1), 14);
        x.set(0, 2, 9);
        due.is("place(0, 1): 13 to 15", x.place(0, 1), 13);
        x.set(0, 2, 0);
        due.is("place(0, 1): no BOLTS by any", x.place(0, 1), 0);
        x.turn(0, COPPER);
        due.is("place(0, 1): the same by all", x.place(0, 1), 0);
    }

    @Sentence(of = 22, says = "BEYOND.")
    static void placeOfNoSuchRodOrNumberIsRefused(Due due) {
        int[][] rows = {{-1, 1}, {1, 1}, {LEAST, 1}, {MOST, 1}, {0, -1}, {0, 101}, {0, LEAST}, {0, MOST}};
        for (int[] row : rows) {
            BoltsByOrder x = strikingAt(0);
            add(x, ROD, 5, 10);
            due.refused(x, "place(" + row[0] + ", " + row[1] + ")", () -> x.place(row[0], row[1]), Due.BEYOND);
        }
    }

    // ---- thief

    @Sentence(of = 23, says = "The other ROD that, taken down, lets BOLTS of a ROD be most ON n HOURS (0 to 60)")
    static void theLastOf60HoursCounts(Due due) {
        BoltsByOrder x = strikingInTheLastOf(60, 0);
        add(x, ROD, 0, 20);
        add(x, COPPER, 0, 0);
        due.is("thief(1, 60)", x.thief(1, 60), 0);
        due.is("thief(1, 59)", x.thief(1, 59), Due.NONE);
        due.is("thief(1, 0)", x.thief(1, 0), Due.NONE);
        due.is("count(0)", x.count(0), 2);
    }

    @Sentence(of = 23, says = "The other ROD that, taken down, lets BOLTS of a ROD be most ON n HOURS (0 to 60)")
    static void theGreaterThiefIsTheOne(Due due) {
        BoltsByOrder x = twoThieves(3);
        due.is("thief(2, 13): 1 BOLT by ROD 0, 4 by ROD 1", x.thief(2, 13), 1);
        due.is("thief(2, 9): 1 BOLT by ROD 0, none by ROD 1", x.thief(2, 9), 0);
        due.is("thief(0, 2), from one behind it", x.thief(0, 2), 2);
    }

    @Sentence(of = 23, says = "The other ROD that, taken down, lets BOLTS of a ROD be most ON n HOURS (0 to 60)")
    static void theFirstAndTheLastOf8AreThieves(Due due) {
        BoltsByOrder x = strikingAt(0);
        for (int i = 0; i < 8; i++) {
            add(x, ROD, 0, i == 0 ? 20 : 10 - i);
        }
        due.is("thief(1, 1): the first", x.thief(1, 1), 0);
        due.is("thief(7, 1), which is the lowest", x.thief(7, 1), Due.NONE);
        x.set(7, 2, 19);
        due.is("thief(7, 1): the first", x.thief(7, 1), 0);
        due.is("thief(0, 1), which has all", x.thief(0, 1), Due.NONE);
        x.set(7, 2, 21);
        due.is("thief(0, 1): the last", x.thief(0, 1), 7);
        due.is("thief(6, 1), which two are ahead of", x.thief(6, 1), Due.NONE);
        due.is("count(0)", x.count(0), 8);
        due.is("HEIGHT of the last stays", x.of(7, 2), 21);
    }

    @Sentence(of = 23, says = "more than as it is")
    static void oneThatTakesNothingIsNoThief(Due due) {
        BoltsByOrder x = twoThieves(4);
        due.is("thief(2, 8), which has all", x.thief(2, 8), Due.NONE);
        due.is("thief(2, 9), which hasn't the last", x.thief(2, 9), 1);
    }

    @Sentence(of = 23, says = "of several the least.")
    static void theLeastOfSeveralThieves(Due due) {
        BoltsByOrder x = twoThieves(0);
        due.is("thief(2, 16): 4 BOLTS by each", x.thief(2, 16), 0);
        due.is("thief(2, 15): 4 by ROD 0, 3 by ROD 1", x.thief(2, 15), 0);
    }

    @Sentence(of = 23, says = "BEYOND.")
    static void thiefOfNoSuchRodOrNumberIsRefused(Due due) {
        int[][] rows = {{-1, 1}, {3, 1}, {LEAST, 1}, {MOST, 1}, {2, -1}, {2, 61}, {2, LEAST}, {2, MOST}};
        for (int[] row : rows) {
            BoltsByOrder x = twoThieves(0);
            due.refused(x, "thief(" + row[0] + ", " + row[1] + ")", () -> x.thief(row[0], row[1]), Due.BEYOND);
        }
    }

    @Sentence(of = 23, says = "NONE.")
    static void oneThatIsAloneHasNoThief(Due due) {
        BoltsByOrder x = strikingAt(0);
        add(x, ROD, 0, 0);
        due.refused(x, "thief(0, 60), alone", () -> x.thief(0, 60), Due.NONE);
        add(x, ROD, 0, 20);
        due.refused(x, "thief(0, 60), which DRAWS nothing", () -> x.thief(0, 60), Due.NONE);
        due.refused(x, "thief(1, 60), which has all", () -> x.thief(1, 60), Due.NONE);
    }

    @Sentence(of = 23, says = "NONE.")
    static void twoThatTakeTheSameBoltAreNoThief(Due due) {
        BoltsByOrder x = strikingAt(0);
        add(x, ROD, 0, 20);
        add(x, ROD, 0, 20);
        add(x, ROD, 0, 10);
        due.is("thief(2, 60)", x.thief(2, 60), Due.NONE);
        x.down(0);
        due.is("thief(1, 60)", x.thief(1, 60), 0);
    }

    // ---- kind

    @Sentence(of = 24, says = "The KIND as one of which a ROD's BILL is least ON n HOURS (0 to 60)")
    static void theLastOf60HoursCountsForTheKind(Due due) {
        BoltsByOrder x = strikingInTheLastOf(60, 0);
        add(x, ROD, 0, 10);
        x.pays(0, 11, 12);
        due.is("kind(0, 60): OAK and POACHER owe nothing", x.kind(0, 60), OAK);
        due.is("kind(0, 59): no bolt", x.kind(0, 59), ROD);
        due.is("kind(0, 0)", x.kind(0, 0), ROD);
        due.is("KIND stays", x.of(0, 0), ROD);
    }

    @Sentence(of = 24, says = "of those by which most BOLTS strike it")
    static void aKindByWhichItIsNotStruckIsLeftOut(Due due) {
        BoltsByOrder x = strikingAt(0);
        add(x, ROD, 0, 20);
        add(x, ROD, 0, 15);
        x.pays(1, 0, 23);
        due.is("kind(1, 1): COPPER 54, KITE 60, CATHEDRAL 27", x.kind(1, 1), CATHEDRAL);
        x.set(1, 2, 16);
        due.is("kind(1, 1): POACHER too, and 0", x.kind(1, 1), POACHER);
    }

    @Sentence(of = 24, says = "of several the least.")
    static void theLeastOfSeveralKinds(Due due) {
        BoltsByOrder x = strikingAt(0);
        add(x, ROD, 0, 20);
        add(x, POACHER, 0, 15);
        due.is("kind(1, 1): COPPER, KITE, CATHEDRAL all owe nothing", x.kind(1, 1), COPPER);
        x.set(1, 2, 0);
        due.is("kind(1, 1): only CATHEDRAL is struck", x.kind(1, 1), CATHEDRAL);
        x.turn(0, KITE);
        x.set(0, 2, 60);
        due.is("kind(1, 1): none is struck", x.kind(1, 1), ROD);
    }

    @Sentence(of = 24, says = "BEYOND.")
    static void kindOfNoSuchRodOrNumberIsRefused(Due due) {
        int[][] rows = {{-1, 1}, {1, 1}, {LEAST, 1}, {MOST, 1}, {0, -1}, {0, 61}, {0, LEAST}, {0, MOST}};
        for (int[] row : rows) {
            BoltsByOrder x = strikingAt(0);
            add(x, KITE, 5, 10);
            due.refused(x, "kind(" + row[0] + ", " + row[1] + ")", () -> x.kind(row[0], row[1]), Due.BEYOND);
        }
    }
}
