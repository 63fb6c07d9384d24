/** Promises 17 to 24: the next bolt. */
public final class NextBoltTest {
    private static final int B = Due.BEYOND;
    private static final int NONE = Due.NONE;
    private static final Due due = new Due();

    public static void main(String[] args) {
        next();
        struck();
        heights();
        places();
        thieves();
        kinds();
        due.end();
    }

    private static void isNext(BoltsByOrder x, int hours, int rod, int charge, int place) {
        due.is("next(0)", x.next(0), hours);
        due.is("next(1)", x.next(1), rod);
        due.is("next(2)", x.next(2), charge);
        due.is("next(3)", x.next(3), place);
    }

    private static void next() {
        due.promise(17);
        BoltsByOrder x = new BoltsByOrder();
        isNext(x, 3, -1, 60, 3);
        x.rod(0, 15);
        x.rod(0, 4);
        isNext(x, 3, 1, 60, 3);
        x.cloud(1, 50);
        isNext(x, 1, -1, 70, 1);
        x.cloud(1, 60);
        isNext(x, 0, -1, 60, 0);
        x.cloud(1, 50);
        x.cloud(3, 50);
        x.cloud(4, 99);
        isNext(x, 1, -1, 99, 1);
        x.cloud(1, 0);
        x.cloud(3, 1);
        isNext(x, 99, 1, 99, 3);
        due.is("next(-1)", x.next(-1), B);
        due.is("next(4)", x.next(4), B);
        x.cloud(3, 0);
        x.cloud(1, 98);
        isNext(x, NONE, NONE, NONE, NONE);
        due.is("BEYOND ahead of NONE", x.next(4), B);
        x.cloud(1, 99);
        isNext(x, 0, -1, 99, 0);
        due.is("nothing changes", x.cloudOf(1), 99);
        due.is("nothing changes", x.now(0), 0);
        due.is("nothing changes", x.cloudOf(0), 0);
    }

    private static void struck() {
        due.promise(18);
        BoltsByOrder x = new BoltsByOrder();
        due.is("struck(0) without rods", x.struck(0), -1);
        x.rod(0, 2);
        x.rod(0, 4);
        int[] struck = {0, 0, 0, 0, 1, 1, 1, -1, -1, -1, -1, -1, -1, -1, -1, -1};
        for (int place = 0; place < 16; place++) {
            due.is("struck(" + place + ")", x.struck(place), struck[place]);
        }
        due.is("struck(-1)", x.struck(-1), B);
        due.is("struck(16)", x.struck(16), B);
        due.is("nothing changes", x.cloudOf(0), 0);
        due.promise(19);
        due.is("reach(0)", x.reach(0), 15);
        due.is("reach(1)", x.reach(1), 112);
        due.is("reach(2)", x.reach(2), B);
        due.is("reach(-1)", x.reach(-1), B);
        x.turn(1, 4);
        due.is("reach(0)", x.reach(0), 0);
        due.is("reach(1)", x.reach(1), 65535);
    }

    private static void heights() {
        BoltsByOrder x = new BoltsByOrder();
        x.rod(0, 3);
        x.rod(0, 5);
        // The next bolt is above place 3.
        due.promise(20);
        due.is("steals(0)", x.steals(0), 2);
        due.is("steals(1)", x.steals(1), 19);
        due.is("steals(2)", x.steals(2), B);
        due.is("steals(-1)", x.steals(-1), B);
        due.promise(21);
        due.is("ducks(0)", x.ducks(0), 1);
        due.is("ducks(1)", x.ducks(1), 18);
        due.is("ducks(2)", x.ducks(2), B);
        due.is("ducks(-1)", x.ducks(-1), B);
        due.is("nothing changes", x.count(2), 20);
        x.set(1, 1, 15);
        due.is("ducks(1) far off", x.ducks(1), 58);
        due.promise(20);
        due.is("steals(1) far off", x.steals(1), 59);
        x.set(0, 2, 11);
        due.is("steals(1) with all its height", x.steals(1), 60);
        x.set(0, 2, 20);
        due.is("steals(1) never", x.steals(1), NONE);
        due.promise(21);
        due.is("ducks(1) always", x.ducks(1), 60);
        x.down(1);
        x.turn(0, 1);
        due.is("a COPPER alone can't duck", x.ducks(0), NONE);
        due.promise(20);
        due.is("a COPPER alone has it all the same", x.steals(0), 0);
        x.turn(0, 0);
        due.is("a ROD must be higher than 0", x.steals(0), 1);
        due.promise(21);
        due.is("a ROD must be 0 high", x.ducks(0), 0);
        x.cloud(1, 99);
        due.is("a bolt at once, above place 0", x.ducks(0), 12);
        due.promise(20);
        due.is("a bolt at once, above place 0", x.steals(0), 13);
        x.cloud(1, 0);
        x.cloud(3, 0);
        due.is("no bolt to be stolen", x.steals(0), NONE);
        due.promise(21);
        due.is("no bolt to be ducked", x.ducks(0), 60);
    }

    private static void places() {
        due.promise(22);
        BoltsByOrder x = new BoltsByOrder();
        x.cloud(0, 7);
        x.cloud(2, 0);
        x.rod(0, 0);
        x.rod(4, 12);
        due.is("never struck", x.place(0, 100), 0);
        x.set(0, 2, 40);
        due.is("place(0, 100)", x.place(0, 100), 4);
        due.is("place(0, 4)", x.place(0, 4), 4);
        due.is("no bolt as yet", x.place(0, 3), 0);
        due.is("place(0, 0)", x.place(0, 0), 0);
        // The bolt strikes the least of several, so place 4 is not enough from behind.
        x.rod(0, 0);
        x.set(2, 2, 40);
        x.set(0, 2, 0);
        due.is("place(2, 100)", x.place(2, 100), 5);
        int[][] wrong = {{-1, 0}, {3, 0}, {0, -1}, {0, 101}};
        for (int[] w : wrong) {
            due.is("place(" + w[0] + ", " + w[1] + ")", x.place(w[0], w[1]), B);
        }
        due.is("nothing changes", x.of(2, 1), 0);
        BoltsByOrder y = new BoltsByOrder();
        y.rod(0, 0);
        // Bolts at 3, 6, 9, 12, 15 above as many places; a rod of 10 reaches two to either side.
        due.is("place where one bolt more comes", y.place(0, 16), 4);
        due.is("place where one bolt comes", y.place(0, 6), 1);
    }

    private static void thieves() {
        due.promise(23);
        BoltsByOrder x = new BoltsByOrder();
        x.cloud(0, 7);
        x.cloud(2, 0);
        for (int i = 0; i < 3; i++) {
            x.rod(0, 7);
        }
        x.set(0, 2, 30);
        x.set(1, 2, 20);
        x.set(2, 2, 40);
        due.is("one of two in the way", x.thief(1, 60), NONE);
        due.is("thief(0, 60)", x.thief(0, 60), 2);
        due.is("thief(2, 60)", x.thief(2, 60), NONE);
        x.down(0);
        due.is("thief(0, 60)", x.thief(0, 60), 1);
        x.set(0, 2, 50);
        due.is("those behind close up", x.thief(1, 60), 0);
        due.is("thief(1, 4)", x.thief(1, 4), 0);
        due.is("no bolt as yet", x.thief(1, 3), NONE);
        due.is("thief(1, 0)", x.thief(1, 0), NONE);

        BoltsByOrder y = new BoltsByOrder();
        y.cloud(1, 50);
        y.cloud(3, 50);
        y.cloud(4, 50);
        y.rod(0, 0);
        y.rod(0, 15);
        y.rod(1, 7);
        y.set(2, 2, 0);
        due.is("BOLTS as it is", y.on(2, 16, 1), 14);
        due.is("of several the least", y.thief(2, 16), 0);
        y.set(1, 2, 14);
        due.is("the one that lets them be most", y.thief(2, 16), 1);
        y.hours(1);
        due.is("the only one", y.thief(2, 15), 1);
        int[][] wrong = {{-1, 0}, {3, 0}, {0, -1}, {0, 61}};
        for (int[] w : wrong) {
            due.is("thief(" + w[0] + ", " + w[1] + ")", y.thief(w[0], w[1]), B);
        }
        due.is("nothing changes", y.count(0), 3);
    }

    private static void kinds() {
        due.promise(24);
        BoltsByOrder x = new BoltsByOrder();
        x.cloud(0, 7);
        x.cloud(2, 0);
        x.rod(0, 7);
        due.is("none owes", x.kind(0, 60), 0);
        x.pays(0, 0, 23);
        due.is("an OAK owes nothing", x.kind(0, 60), 3);
        due.is("no bolt as yet", x.kind(0, 3), 0);
        due.is("kind(0, 4)", x.kind(0, 4), 3);
        due.is("kind(0, 0)", x.kind(0, 0), 0);
        x.set(0, 2, 2);
        due.is("a low OAK has no bolts", x.kind(0, 60), 4);
        x.set(0, 2, 10);
        x.rod(0, 7);
        x.set(1, 2, 25);
        due.is("the only KIND with bolts", x.kind(0, 60), 4);
        x.set(1, 2, 19);
        due.is("a CATHEDRAL owes less than a KITE", x.kind(0, 60), 4);
        due.is("kind(1, 60)", x.kind(1, 60), 0);
        int[][] wrong = {{-1, 0}, {2, 0}, {0, -1}, {0, 61}};
        for (int[] w : wrong) {
            due.is("kind(" + w[0] + ", " + w[1] + ")", x.kind(w[0], w[1]), B);
        }
        due.is("nothing changes", x.of(0, 0), 0);
    }
}
