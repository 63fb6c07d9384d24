/** Promises 12 to 16: hours, days, draws, now, on. */
public final class HoursTest {
    private static final int B = Due.BEYOND;
    private static final Due due = new Due();

    public static void main(String[] args) {
        hours();
        ends();
        ties();
        limits();
        held();
        days();
        seeds();
        now();
        on();
        due.end();
    }

    private static BoltsByOrder tall() {
        BoltsByOrder x = new BoltsByOrder();
        x.rod(0, 0);
        x.set(0, 2, 60);
        x.pays(0, 3, 4);
        return x;
    }

    private static void hours() {
        due.promise(12);
        BoltsByOrder x = tall();
        due.is("hours(3)", x.hours(3), 0);
        due.is("CHARGE", x.cloudOf(1), 60);
        due.is("PLACE", x.cloudOf(0), 3);
        due.is("BOLTS", x.now(3), 0);
        due.is("hours(1), paid", x.hours(1), 60);
        due.is("CHARGE", x.cloudOf(1), 20);
        due.is("PLACE", x.cloudOf(0), 4);
        due.is("STRAYS", x.now(4), 0);
        due.is("hours(3), not paid", x.hours(3), 60);
        due.is("STRAYS", x.now(4), 60);
        due.is("BOLTS", x.of(0, 6), 2);
        due.is("BILL", x.of(0, 5), 60);
        x.turn(0, 3);
        x.pays(0, 0, 23);
        x.cloud(1, 80);
        due.is("an OAK owes nothing", x.hours(1), 60);
        due.is("STRAYS", x.now(4), 140);
        due.is("BOLTS", x.of(0, 6), 3);
        x.turn(0, 4);
        x.cloud(1, 80);
        due.is("a CATHEDRAL owes half", x.hours(1), 96);
        due.is("STRAYS", x.now(4), 140);
        x.set(0, 2, 0);
        x.turn(0, 0);
        x.cloud(1, 61);
        due.is("none draws", x.hours(1), 96);
        due.is("STRAYS", x.now(4), 201);
        due.is("BOLTS", x.of(0, 6), 4);
        x.cloud(4, 20);
        x.cloud(3, 0);
        x.cloud(1, 19);
        x.hours(2);
        due.is("too little CHARGE stays", x.cloudOf(1), 19);
        x.cloud(1, 20);
        x.hours(1);
        due.is("just enough is gone", x.cloudOf(1), 0);
        due.is("hours(0)", x.hours(0), B);
        due.is("hours(-1)", x.hours(-1), B);
        due.is("hours(101)", x.hours(101), B);
        due.is("hours(MAX)", x.hours(Integer.MAX_VALUE), B);
        due.is("HOUR", x.now(0), 13);
    }

    private static void ends() {
        due.promise(12);
        BoltsByOrder x = new BoltsByOrder();
        x.cloud(0, 14);
        int[] places = {15, 15, 14};
        int[] drifts = {1, -1, -1};
        for (int i = 0; i < 3; i++) {
            x.hours(1);
            due.is("PLACE to the right", x.cloudOf(0), places[i]);
            due.is("DRIFT to the right", x.cloudOf(2), drifts[i]);
        }
        x.cloud(0, 1);
        for (int i = 0; i < 3; i++) {
            x.hours(1);
            due.is("PLACE to the left", x.cloudOf(0), 15 - places[i]);
            due.is("DRIFT to the left", x.cloudOf(2), -drifts[i]);
        }
        x.cloud(2, 0);
        x.cloud(0, 15);
        x.hours(5);
        due.is("PLACE stays", x.cloudOf(0), 15);
        due.is("DRIFT stays", x.cloudOf(2), 0);
        x.cloud(4, 99);
        x.cloud(3, 50);
        x.cloud(1, 90);
        x.hours(1);
        due.is("CHARGE 99 at most", x.cloudOf(1), 99);
        x.hours(1);
        due.is("CHARGE grows behind the bolt", x.cloudOf(1), 50);
    }

    private static void ties() {
        due.promise(12);
        BoltsByOrder x = new BoltsByOrder();
        x.rod(0, 2);
        x.rod(0, 0);
        x.rod(0, 2);
        x.cloud(0, 1);
        x.cloud(1, 60);
        x.hours(1);
        due.is("the least of several", x.of(0, 6), 1);
        due.is("the least of several", x.of(1, 6), 0);
        due.is("the least of several", x.of(2, 6), 0);
        x.set(2, 2, 11);
        x.cloud(1, 60);
        x.hours(1);
        due.is("the one that DRAWS most", x.of(2, 6), 1);
        due.is("BOLTS of all", x.now(3), 2);
        for (int rod = 0; rod < 3; rod++) {
            x.set(rod, 1, 15);
            x.set(rod, 2, 0);
        }
        x.set(1, 2, 1);
        x.cloud(0, 15);
        x.cloud(1, 60);
        x.hours(1);
        due.is("one that DRAWS 1", x.of(1, 6), 1);
    }

    private static void limits() {
        due.promise(12);
        BoltsByOrder x = new BoltsByOrder();
        for (int i = 0; i < 99; i++) {
            x.hours(100);
        }
        due.is("hours(100) from 9900", x.hours(100), Due.STATE);
        due.is("hours(75)", x.hours(75), 0);
        due.promise(13);
        due.is("days(2) from 9975", x.days(2), Due.STATE);
        due.is("days(0)", x.days(0), B);
        due.is("days(5), BEYOND ahead of STATE", x.days(5), B);
        due.is("z stays", x.seed(1), 1);
        due.is("days(1) from 9975", x.days(1), 0);
        due.is("HOUR", x.now(0), 9999);
        due.is("CLOCK", x.now(1), 15);
        due.is("days(1) from 9999", x.days(1), Due.STATE);
        due.promise(12);
        due.is("hours(1) from 9999", x.hours(1), Due.STATE);
        due.is("hours(101), BEYOND ahead of STATE", x.hours(101), B);
        due.is("HOUR", x.now(0), 9999);
        due.is("status(4)", x.status(4), 4);
        BoltsByOrder y = new BoltsByOrder();
        for (int i = 0; i < 99; i++) {
            y.hours(100);
        }
        due.is("hours(99) from 9900", y.hours(99), 0);
        due.is("HOUR", y.now(0), 9999);
        due.promise(16);
        x.rod(0, 0);
        x.set(0, 2, 60);
        x.cloud(2, 0);
        x.cloud(0, 0);
        x.cloud(1, 0);
        x.pays(0, 18, 19);
        due.is("ON goes on behind 9999", x.on(0, 4, 0), 60);
        due.is("ON goes on behind 9999", x.clocks(0, 4), 1 << 18);
    }

    private static void held() {
        due.promise(12);
        BoltsByOrder x = new BoltsByOrder();
        x.rod(0, 0);
        x.cloud(2, 0);
        x.cloud(3, 50);
        x.cloud(4, 50);
        x.pays(0, 0, 23);
        for (int i = 0; i < 20; i++) {
            x.hours(100);
        }
        // Hours 1 to 1999 each have a bolt of 50; 83 of them are at 23 o'clock.
        due.is("BILL", x.of(0, 5), (1999 - 83) * 50);
        due.is("STRAYS", x.now(4), 83 * 50);
        x.hours(100);
        due.is("BILL is held", x.hours(100), 99999);
        due.is("BILL is held", x.of(0, 5), 99999);
        due.is("BILL ON is held", x.on(0, 100, 0), 99999);
        due.is("BOLTS", x.of(0, 6), 2199);
        x.settle(0);
        due.is("BILL goes on", x.hours(1), 50);
        BoltsByOrder y = new BoltsByOrder();
        y.cloud(3, 50);
        y.cloud(4, 50);
        for (int i = 0; i < 20; i++) {
            y.hours(100);
        }
        due.is("STRAYS", y.now(4), 99950);
        due.is("STRAYS", y.strays(0), 99950);
        due.is("STRAYS are held ON", y.strays(1), 99999);
        y.hours(2);
        due.is("STRAYS are held", y.now(4), 99999);
    }

    private static void days() {
        due.promise(13);
        int[][] places = {{1, 7, 0, 8, 0}, {5, 7, 7, 7, 15}, {-7, 8, 0, 0, 0}, {0, 8, 15, 8, 8}};
        int[][] drifts = {{1, -1, -1, -1, 1}, {5, -1, 0, 0, -1}, {-7, -1, 1, 0, 0}, {0, -1, 1, 1, 0}};
        for (int s = 0; s < 4; s++) {
            BoltsByOrder x = new BoltsByOrder();
            x.seed(places[s][0]);
            for (int day = 1; day <= 4; day++) {
                x.days(1);
                due.is("PLACE on day " + day, x.cloudOf(0), places[s][day]);
                due.is("DRIFT on day " + day, x.cloudOf(2), drifts[s][day]);
            }
            BoltsByOrder y = new BoltsByOrder();
            y.seed(places[s][0]);
            y.days(4);
            due.is("four DAYS at once", y.cloudOf(0), places[s][4]);
            due.is("HOUR", y.now(0), 96);
        }
        BoltsByOrder x = tall();
        x.cloud(2, 0);
        due.is("days(1) bills", x.days(1), 60);
        // Of seven bolts one is above place 15, out of reach, and one is paid for.
        due.is("BOLTS", x.now(3), 6);
        due.is("STRAYS", x.now(4), 360);
        due.is("days(-1)", x.days(-1), B);
        due.is("HOUR", x.now(0), 24);
    }

    private static void seeds() {
        due.promise(14);
        BoltsByOrder x = new BoltsByOrder();
        due.is("seed(-5)", x.seed(-5), 1);
        due.is("seed(MIN)", x.seed(Integer.MIN_VALUE), -5);
        due.is("seed(1)", x.seed(1), Integer.MIN_VALUE);
        x.days(1);
        due.is("z behind a draw", x.seed(1), 1103527590);
        x.days(2);
        due.is("z behind two draws", x.seed(-1000000001), -1770082073);
        due.is("z may be any number", x.seed(0), -1000000001);
        due.is("that is no finding", x.status(-1), 0);
    }

    private static void now() {
        due.promise(15);
        BoltsByOrder x = tall();
        x.rod(0, 15);
        x.set(1, 2, 60);
        x.pays(1, 0, 23);
        x.rod(3, 1);
        x.pays(2, 3, 4);
        due.is("PAID at 0", x.now(5), 2);
        x.hours(3);
        due.is("PAID at 3", x.now(5), 7);
        x.hours(24);
        due.is("HOUR", x.now(0), 27);
        due.is("CLOCK", x.now(1), 3);
        due.is("BOLTS", x.now(3), 8);
        // The left one has those at 3, 6 and 24, the first of them paid; the right one five, all of them paid.
        due.is("BOLTS", x.of(0, 6), 3);
        due.is("BOLTS", x.of(1, 6), 5);
        due.is("BILLS", x.now(2), 360);
        due.is("STRAYS", x.now(4), 120);
        due.is("now(-1)", x.now(-1), B);
        due.is("now(6)", x.now(6), B);
    }

    private static void on() {
        due.promise(16);
        BoltsByOrder x = tall();
        due.is("BILL ON 0", x.on(0, 0, 0), 0);
        due.is("BILL ON 3", x.on(0, 3, 0), 0);
        due.is("BILL ON 4", x.on(0, 4, 0), 60);
        due.is("BOLTS ON 3", x.on(0, 3, 1), 0);
        due.is("BOLTS ON 4", x.on(0, 4, 1), 1);
        // Of 33 bolts those at 15 and 48 are above place 15, out of reach.
        due.is("BOLTS ON 100", x.on(0, 100, 1), 31);
        due.is("BILL ON 100", x.on(0, 100, 0), 5 * 60);
        x.hours(4);
        due.is("BILL ON 0 is that of now", x.on(0, 0, 0), 60);
        due.is("BOLTS ON 3 go on from now", x.on(0, 3, 1), 2);
        int[][] wrong = {{-1, 0, 0}, {1, 0, 0}, {0, -1, 0}, {0, 101, 0}, {0, 0, -1}, {0, 0, 2}};
        for (int[] w : wrong) {
            due.is("on(" + w[0] + ", " + w[1] + ", " + w[2] + ")", x.on(w[0], w[1], w[2]), B);
        }
        due.is("nothing changes", x.now(0), 4);
        due.is("nothing changes", x.cloudOf(0), 4);
        due.is("nothing changes", x.cloudOf(1), 20);
        due.is("nothing changes", x.of(0, 6), 1);
        due.is("nothing changes", x.now(4), 0);
    }
}
