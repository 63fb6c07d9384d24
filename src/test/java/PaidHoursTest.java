/** Promises 25 to 30: hours to be paid for, and forks. */
public final class PaidHoursTest {
    private static final int B = Due.BEYOND;
    private static final Due due = new Due();

    public static void main(String[] args) {
        everyThirdHour();
        round();
        several();
        wrongInputs();
        strays();
        forks();
        shares();
        due.end();
    }

    private static BoltsByOrder tall() {
        BoltsByOrder x = new BoltsByOrder();
        x.rod(0, 3);
        x.set(0, 2, 60);
        return x;
    }

    private static void covered(BoltsByOrder x, int n, int clocks, int covers, int from) {
        due.promise(25);
        due.is("clocks(0, " + n + ")", x.clocks(0, n), clocks);
        due.promise(26);
        due.is("covers(0, " + n + ")", x.covers(0, n), covers);
        due.promise(27);
        due.is("from(0, " + n + ")", x.from(0, n), from);
    }

    private static void everyThirdHour() {
        BoltsByOrder x = tall();
        covered(x, 0, 0, 0, 0);
        covered(x, 3, 0, 0, 0);
        covered(x, 4, 8, 1, 3);
        covered(x, 9, 72, 4, 3);
        covered(x, 10, 584, 7, 3);
        covered(x, 100, 2396745, 22, 0);
        due.promise(25);
        due.is("nothing changes", x.now(0), 0);
        x.rod(4, 3);
        x.set(1, 2, 60);
        covered(x, 100, 0, 0, 0);
    }

    private static void round() {
        BoltsByOrder x = tall();
        x.hours(20);
        covered(x, 8, 1 << 21 | 1 | 8, 7, 21);
        x.cloud(2, 0);
        x.cloud(3, 50);
        x.cloud(4, 50);
        x.cloud(1, 99);
        covered(x, 24, (1 << 24) - 1, 24, 0);
        covered(x, 23, ((1 << 24) - 1) ^ 1 << 19, 23, 20);
        covered(x, 4, 15 << 20, 4, 20);
        covered(x, 5, 15 << 20 | 1, 5, 20);
    }

    private static void several() {
        BoltsByOrder x = tall();
        x.cloud(3, 5);
        covered(x, 25, 1 << 12 | 1, 13, 0);
        x.hours(1);
        x.cloud(1, 0);
        covered(x, 25, 1 << 13 | 1 << 1, 13, 1);
    }

    private static void wrongInputs() {
        BoltsByOrder x = tall();
        int[][] wrong = {{-1, 0}, {1, 0}, {0, -1}, {0, 101}};
        for (int[] w : wrong) {
            due.promise(25);
            due.is("clocks(" + w[0] + ", " + w[1] + ")", x.clocks(w[0], w[1]), B);
            due.promise(26);
            due.is("covers(" + w[0] + ", " + w[1] + ")", x.covers(w[0], w[1]), B);
            due.promise(27);
            due.is("from(" + w[0] + ", " + w[1] + ")", x.from(w[0], w[1]), B);
        }
        due.is("status(0)", x.status(0), 12);
    }

    private static void strays() {
        due.promise(28);
        BoltsByOrder x = new BoltsByOrder();
        due.is("strays(0)", x.strays(0), 0);
        due.is("strays(3)", x.strays(3), 0);
        due.is("strays(4)", x.strays(4), 60);
        due.is("strays(100)", x.strays(100), 33 * 60);
        x.hours(4);
        due.is("strays(0)", x.strays(0), 60);
        due.is("strays(3)", x.strays(3), 120);
        x.rod(0, 5);
        x.set(0, 2, 60);
        x.pays(0, 6, 7);
        due.is("a paid bolt is no stray", x.strays(3), 60);
        x.pays(0, 7, 6);
        due.is("a bolt that isn't paid is one", x.strays(3), 120);
        due.is("strays(-1)", x.strays(-1), B);
        due.is("strays(101)", x.strays(101), B);
        due.is("nothing changes", x.now(4), 60);
    }

    private static void isFork(BoltsByOrder x, int rod, int above, int below) {
        due.is("fork(" + rod + ", 0)", x.fork(rod, 0), above);
        due.is("fork(" + rod + ", 1)", x.fork(rod, 1), below);
    }

    private static void forks() {
        due.promise(29);
        BoltsByOrder x = new BoltsByOrder();
        x.rod(0, 0);
        x.rod(1, 9);
        x.rod(0, 15);
        x.cloud(1, 37);
        isFork(x, 0, 185, 9);
        isFork(x, 1, 148, 9);
        isFork(x, 2, 0, 1);
        x.set(0, 2, 9);
        isFork(x, 0, 333, 17);
        x.set(0, 2, 1);
        x.cloud(1, 1);
        isFork(x, 0, 1, 9);
        isFork(x, 1, 8, 9);
        x.set(0, 2, 10);
        x.cloud(1, 36);
        isFork(x, 0, 20, 1);
        isFork(x, 1, 16, 1);
        x.cloud(1, 0);
        isFork(x, 0, 0, 1);
        x.cloud(1, 99);
        x.down(1);
        x.cloud(0, 7);
        isFork(x, 0, 0, 1);
        int[][] wrong = {{-1, 0}, {2, 0}, {0, -1}, {0, 2}};
        for (int[] w : wrong) {
            due.is("fork(" + w[0] + ", " + w[1] + ")", x.fork(w[0], w[1]), B);
        }
        due.is("nothing changes", x.cloudOf(1), 99);
    }

    private static void areShares(BoltsByOrder x, int... want) {
        for (int rod = 0; rod < want.length; rod++) {
            due.is("share(" + rod + ")", x.share(rod), want[rod]);
        }
    }

    private static void shares() {
        due.promise(30);
        BoltsByOrder x = new BoltsByOrder();
        x.rod(0, 0);
        x.rod(1, 9);
        x.rod(0, 15);
        x.cloud(1, 37);
        areShares(x, 21, 16, 0);
        x.cloud(1, 36);
        areShares(x, 20, 16, 0);
        x.cloud(1, 0);
        areShares(x, 0, 0, 0);
        x.cloud(1, 38);
        for (int rod = 0; rod < 3; rod++) {
            x.turn(rod, 0);
            x.set(rod, 1, 0);
        }
        areShares(x, 13, 13, 12);
        x.cloud(1, 37);
        areShares(x, 13, 12, 12);
        x.set(0, 2, 9);
        // 9, 10 and 10 of 29: 333, 370 and 370 by 29, the rests 14, 22 and 22.
        areShares(x, 11, 13, 13);
        x.cloud(0, 15);
        areShares(x, 0, 0, 0);
        BoltsByOrder full = new BoltsByOrder();
        for (int rod = 0; rod < 8; rod++) {
            full.rod(0, 0);
        }
        full.cloud(1, 99);
        areShares(full, 13, 13, 13, 12, 12, 12, 12, 12);
        full.down(7);
        areShares(full, 15, 14, 14, 14, 14, 14, 14);
        due.is("share(-1)", x.share(-1), B);
        due.is("share(3)", x.share(3), B);
    }
}
