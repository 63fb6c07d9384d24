/** Promises 1 to 11: a new object, the cloud, rods. */
public final class RodsTest {
    private static final int B = Due.BEYOND;
    private static final Due due = new Due();

    public static void main(String[] args) {
        newObject();
        cloud();
        rods();
        setting();
        paying();
        kinds();
        draws();
        owes();
        takingDown();
        due.end();
    }

    private static void newObject() {
        due.promise(1);
        BoltsByOrder x = new BoltsByOrder();
        int[] cloud = {0, 0, 1, 20, 60};
        for (int what = 0; what < 5; what++) {
            due.is("cloudOf(" + what + ")", x.cloudOf(what), cloud[what]);
        }
        for (int what = 0; what < 6; what++) {
            due.is("now(" + what + ")", x.now(what), 0);
        }
        for (int what = 0; what < 4; what++) {
            due.is("count(" + what + ")", x.count(what), 0);
        }
        due.is("status(-1)", x.status(-1), 0);
        due.is("undo()", x.undo(), Due.NONE);
        due.is("tear()", x.tear(), 0);
        due.is("wipe()", x.wipe(), 0);
        due.is("seed(1)", x.seed(1), 1);
        due.is("of(0, 0)", x.of(0, 0), B);
        for (int s = 0; s < 4; s++) {
            due.is("write(" + s + ", 0, 1)", x.write(s, 0, 1L), Due.MISSING);
        }
    }

    private static void cloud() {
        int[] least = {0, 0, -1, 0, 20};
        int[] most = {15, 99, 1, 50, 99};
        int[] first = {0, 0, 1, 20, 60};
        for (int what = 0; what < 5; what++) {
            BoltsByOrder x = new BoltsByOrder();
            due.promise(2);
            due.is("below", x.cloud(what, least[what] - 1), B);
            due.is("above", x.cloud(what, most[what] + 1), B);
            due.is("far below", x.cloud(what, Integer.MIN_VALUE), B);
            due.is("far above", x.cloud(what, Integer.MAX_VALUE), B);
            due.promise(3);
            due.is("cloudOf as it was", x.cloudOf(what), first[what]);
            due.promise(2);
            due.is("least of " + what, x.cloud(what, least[what]), first[what]);
            due.is("most of " + what, x.cloud(what, most[what]), least[what]);
            due.promise(3);
            for (int other = 0; other < 5; other++) {
                due.is("cloudOf(" + other + ")", x.cloudOf(other), other == what ? most[what] : first[other]);
            }
        }
        BoltsByOrder x = new BoltsByOrder();
        due.promise(2);
        due.is("cloud(-1, 0)", x.cloud(-1, 0), B);
        due.is("cloud(5, 0)", x.cloud(5, 0), B);
        due.is("cloud(MAX, 20)", x.cloud(Integer.MAX_VALUE, 20), B);
        due.is("cloud(2, 0)", x.cloud(2, 0), 1);
        due.is("cloud(2, -1)", x.cloud(2, -1), 0);
        due.is("cloud(2, 1)", x.cloud(2, 1), -1);
        due.promise(3);
        due.is("cloudOf(-1)", x.cloudOf(-1), B);
        due.is("cloudOf(5)", x.cloudOf(5), B);
    }

    private static void rods() {
        due.promise(4);
        BoltsByOrder x = new BoltsByOrder();
        due.is("rod(-1, 0)", x.rod(-1, 0), B);
        due.is("rod(6, 0)", x.rod(6, 0), B);
        due.is("rod(0, -1)", x.rod(0, -1), B);
        due.is("rod(0, 16)", x.rod(0, 16), B);
        due.is("count(0)", x.count(0), 0);
        due.is("rod(5, 15)", x.rod(5, 15), 0);
        for (int i = 1; i < 8; i++) {
            due.is("rod(0, 3)", x.rod(0, 3), i);
        }
        due.is("a ninth", x.rod(0, 0), Due.FULL);
        due.is("BEYOND ahead of FULL", x.rod(6, 0), B);
        due.is("BEYOND ahead of FULL", x.rod(0, 16), B);
        due.is("count(0)", x.count(0), 8);

        due.promise(5);
        int[] fresh = {5, 15, 10, 0, 0, 0, 0, 0, 0, 0};
        for (int what = 0; what < 10; what++) {
            due.is("of(0, " + what + ")", x.of(0, what), fresh[what]);
        }
        due.is("of(0, -1)", x.of(0, -1), B);
        due.is("of(0, 10)", x.of(0, 10), B);
        due.is("of(-1, 0)", x.of(-1, 0), B);
        due.is("of(8, 0)", x.of(8, 0), B);
    }

    private static void setting() {
        due.promise(6);
        BoltsByOrder x = new BoltsByOrder();
        due.is("set without rods", x.set(0, 1, 0), B);
        x.rod(0, 4);
        x.rod(1, 5);
        due.is("set(1, 1, 15)", x.set(1, 1, 15), 5);
        due.is("set(1, 2, 60)", x.set(1, 2, 60), 10);
        due.is("set(1, 2, 0)", x.set(1, 2, 0), 60);
        due.is("set(1, 1, 0)", x.set(1, 1, 0), 15);
        due.is("of(0, 1)", x.of(0, 1), 4);
        due.is("of(0, 2)", x.of(0, 2), 10);
        int[][] wrong = {{1, 0, 1}, {1, 3, 1}, {1, -1, 1}, {1, 1, 16}, {1, 1, -1}, {1, 2, 61}, {1, 2, -1}, {2, 1, 0}, {-1, 2, 0}};
        for (int[] w : wrong) {
            due.is("set(" + w[0] + ", " + w[1] + ", " + w[2] + ")", x.set(w[0], w[1], w[2]), B);
        }
        due.is("of(1, 1)", x.of(1, 1), 0);
        due.is("of(1, 2)", x.of(1, 2), 0);
    }

    private static void paying() {
        due.promise(7);
        BoltsByOrder x = new BoltsByOrder();
        x.rod(0, 4);
        due.is("pays(0, 22, 4)", x.pays(0, 22, 4), 6);
        due.is("of(0, 3)", x.of(0, 3), 22);
        due.is("of(0, 4)", x.of(0, 4), 4);
        due.is("pays(0, 23, 0)", x.pays(0, 23, 0), 1);
        due.is("pays(0, 0, 23)", x.pays(0, 0, 23), 23);
        due.is("pays(0, 1, 0)", x.pays(0, 1, 0), 23);
        due.is("pays(0, 7, 7)", x.pays(0, 7, 7), 0);
        int[][] wrong = {{0, 24, 0}, {0, 0, 24}, {0, -1, 0}, {0, 0, -1}, {1, 0, 0}, {-1, 0, 0}};
        for (int[] w : wrong) {
            due.is("pays(" + w[0] + ", " + w[1] + ", " + w[2] + ")", x.pays(w[0], w[1], w[2]), B);
        }
        due.is("of(0, 3)", x.of(0, 3), 7);

        due.promise(5);
        x.pays(0, 2, 4);
        x.pays(x.rod(0, 0), 22, 3);
        for (int hour = 0; hour < 24; hour++) {
            due.is("PAID at " + hour, x.of(0, 9), hour == 2 || hour == 3 ? 1 : 0);
            due.is("PAID round at " + hour, x.of(1, 9), hour >= 22 || hour < 3 ? 1 : 0);
            x.hours(1);
        }
        due.is("PAID at 24", x.of(1, 9), 1);
    }

    private static void kinds() {
        due.promise(8);
        BoltsByOrder x = new BoltsByOrder();
        x.rod(0, 4);
        due.is("turn(0, 5)", x.turn(0, 5), 0);
        due.is("turn(0, 5)", x.turn(0, 5), 5);
        due.is("of(0, 0)", x.of(0, 0), 5);
        due.is("turn(0, 6)", x.turn(0, 6), B);
        due.is("turn(0, -1)", x.turn(0, -1), B);
        due.is("turn(1, 0)", x.turn(1, 0), B);
        due.is("turn(-1, 0)", x.turn(-1, 0), B);
        due.is("of(0, 0)", x.of(0, 0), 5);

        due.promise(9);
        x.set(0, 2, 33);
        // Which kinds, as a set, each kind may be taken as.
        int[] may = {1, 3, 5, 9, 19, 37};
        for (int kind = 0; kind < 6; kind++) {
            x.turn(0, kind);
            for (int asked = 0; asked < 6; asked++) {
                due.is(kind + " as " + asked, x.as(0, asked), (may[kind] >> asked & 1) == 1 ? 33 : Due.KIND);
            }
        }
        due.is("as(0, 6)", x.as(0, 6), B);
        due.is("as(0, -1)", x.as(0, -1), B);
        due.is("as(1, 0)", x.as(1, 0), B);
        due.is("as(-1, 0)", x.as(-1, 0), B);
    }

    private static void draws() {
        due.promise(5);
        BoltsByOrder x = new BoltsByOrder();
        x.rod(0, 5);
        x.set(0, 2, 12);
        // By 2 places between, then by 5.
        int[] near = {4, 12, 16, 1, 32, 6};
        int[] far = {0, 8, 12, 0, 28, 2};
        for (int kind = 0; kind < 6; kind++) {
            x.turn(0, kind);
            x.cloud(0, 3);
            due.is("DRAWS of " + kind + " from 3", x.of(0, 7), near[kind]);
            x.cloud(0, 7);
            due.is("DRAWS of " + kind + " from 7", x.of(0, 7), near[kind]);
            x.cloud(0, 0);
            due.is("DRAWS of " + kind + " from 0", x.of(0, 7), far[kind]);
        }
        x.turn(0, 5);
        x.set(0, 2, 9);
        due.is("a low POACHER", x.of(0, 7), 0);
        x.turn(0, 3);
        x.cloud(0, 5);
        x.set(0, 2, 2);
        due.is("a low OAK", x.of(0, 7), 0);
    }

    private static void owes() {
        due.promise(5);
        BoltsByOrder x = new BoltsByOrder();
        x.rod(0, 5);
        x.cloud(1, 59);
        int[] paid = {59, 54, 59, 0, 27, 0};
        for (int kind = 0; kind < 6; kind++) {
            x.turn(0, kind);
            x.pays(0, 0, 1);
            due.is("OWES of " + kind, x.of(0, 8), paid[kind]);
            x.pays(0, 1, 0);
            due.is("OWES of " + kind + " unpaid", x.of(0, 8), 0);
        }
        x.turn(0, 1);
        x.pays(0, 0, 1);
        x.cloud(1, 9);
        due.is("a tenth is cut", x.of(0, 8), 9);
        x.turn(0, 4);
        due.is("a half is cut", x.of(0, 8), 4);
    }

    private static void takingDown() {
        due.promise(10);
        BoltsByOrder x = new BoltsByOrder();
        for (int kind = 0; kind < 4; kind++) {
            x.rod(kind, kind + 1);
        }
        x.cloud(1, 70);
        x.set(0, 2, 60);
        x.pays(0, 22, 20);
        x.hours(1);
        due.is("down(4)", x.down(4), B);
        due.is("down(-1)", x.down(-1), B);
        due.is("down(1)", x.down(1), 0);
        due.is("count(0)", x.count(0), 3);
        due.is("of(0, 0)", x.of(0, 0), 0);
        due.is("of(1, 0)", x.of(1, 0), 2);
        due.is("of(2, 0)", x.of(2, 0), 3);
        due.is("of(2, 1)", x.of(2, 1), 4);
        due.is("of(3, 0)", x.of(3, 0), B);
        due.promise(11);
        due.is("settle(-1)", x.settle(-1), B);
        due.is("settle(3)", x.settle(3), B);
        due.is("now(2)", x.now(2), 70);
        due.promise(10);
        due.is("down(0)", x.down(0), 70);
        due.is("now(2)", x.now(2), 0);
        due.is("no BOLTS of it are left", x.now(3), 0);
        due.is("no HEIGHT of it is left", x.count(2), 20);
        due.is("no PAID hours of it are left", x.count(3), 0);
        due.is("no PAID hour of it is left", x.now(5), 0);
        x.cloud(1, 10);
        // The KITE draws 18 and the OAK none: no draw of the one that was taken down is left.
        due.is("no draw of it is left", x.fork(0, 1), 1);
        due.is("no draw of it is left", x.share(0), 10);
        due.is("a new one is fresh", x.rod(1, 9), 2);
        int[] fresh = {1, 9, 10, 0, 0, 0, 0};
        for (int what = 0; what < 7; what++) {
            due.is("of(2, " + what + ")", x.of(2, what), fresh[what]);
        }
        due.is("down(2)", x.down(2), 0);
        due.is("down(0)", x.down(0), 0);
        due.is("down(0)", x.down(0), 0);
        due.is("down(0)", x.down(0), B);

        BoltsByOrder full = new BoltsByOrder();
        for (int i = 0; i < 8; i++) {
            full.rod(0, i);
        }
        due.is("down(7) of eight", full.down(7), 0);
        due.is("rod(1, 9)", full.rod(1, 9), 7);
        due.is("down(0) of eight", full.down(0), 0);
        due.is("the last", full.of(6, 1), 9);
        due.is("the last but one", full.of(5, 1), 6);
        due.is("rod(2, 10)", full.rod(2, 10), 7);
        due.is("count(0)", full.count(0), 8);
        due.is("count(2)", full.count(2), 80);
        due.is("count(3)", full.count(3), 0);

        due.promise(11);
        BoltsByOrder y = new BoltsByOrder();
        y.rod(0, 0);
        y.pays(0, 0, 1);
        y.cloud(1, 99);
        y.hours(1);
        due.is("settle(0)", y.settle(0), 99);
        due.is("settle(0)", y.settle(0), 0);
        due.is("of(0, 5)", y.of(0, 5), 0);
        due.is("BOLTS stay", y.of(0, 6), 1);
    }
}
