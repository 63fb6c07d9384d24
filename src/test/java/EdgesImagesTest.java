/** Boundary cases of promises 40 to 44: images, counts, status. */
public final class EdgesImagesTest {
    private static final int LEAST = Integer.MIN_VALUE;
    private static final int MOST = Integer.MAX_VALUE;

    public static void main(String[] args) throws Exception {
        Edges.run(40, 44, EdgesImagesTest.class);
    }

    private static BoltsByOrder withRods(int rods) {
        BoltsByOrder x = new BoltsByOrder();
        for (int i = 0; i < rods; i++) {
            x.rod(i % 6, i);
        }
        return x;
    }

    private static void changeAll(BoltsByOrder x) {
        x.cloud(0, 15);
        x.cloud(1, 99);
        x.cloud(2, -1);
        x.cloud(3, 50);
        x.cloud(4, 99);
        x.hours(2);
        x.seed(LEAST);
        if (x.rod(5, 15) < 0) {
            x.down(0);
        }
        x.turn(0, 2);
        x.set(0, 1, 9);
        x.set(0, 2, 60);
        x.pays(0, 23, 22);
    }

    // ---- image, undo, tear

    @Sentence(of = 40, says = "All that section 1 tells (THE TAPE not), and z, is kept: 1.")
    static void anImageOfNothingAndOfAFullPlain(Due due) {
        for (int rods : new int[] {0, 1, 8}) {
            BoltsByOrder x = withRods(rods);
            String before = Due.look(x);
            due.is("image()", x.image(), 1);
            changeAll(x);
            due.holds("all has changed", !before.equals(Due.look(x)));
            due.is("undo()", x.undo(), rods);
            due.holds("all is as it was", before.equals(Due.look(x)));
        }
    }

    @Sentence(of = 40, says = "All that section 1 tells (THE TAPE not), and z, is kept: 1.")
    static void theGreatestNumbersAreKept(Due due) {
        BoltsByOrder x = withRods(1);
        x.pays(0, 0, 23);
        x.set(0, 2, 60);
        x.cloud(1, 50);
        x.cloud(2, 0);
        x.cloud(3, 50);
        x.cloud(4, 20);
        Due.goTo(x, 9999);
        x.seed(MOST);
        due.is("image()", x.image(), 1);
        x.settle(0);
        x.down(0);
        x.seed(0);
        due.is("undo()", x.undo(), 1);
        due.is("BILL", x.of(0, 5), 99999);
        due.is("BOLTS", x.of(0, 6), 9999);
        due.is("HOUR", x.now(0), 9999);
        due.is("STRAYS", x.now(4), 20800);
        due.is("z", x.seed(0), MOST);
    }

    @Sentence(of = 40, says = "All that section 1 tells (THE TAPE not), and z, is kept: 1.")
    static void theTapeIsNotKept(Due due) {
        BoltsByOrder x = new BoltsByOrder();
        Due.feed(x, "grows");
        x.image();
        Due.feed(x, " 7");
        x.undo();
        due.is("count(1)", x.count(1), 7);
        due.is("plain()", x.plain(), 1);
        x.undo();
        due.is("count(1)", x.count(1), 0);
        due.is("cloudOf(3)", x.cloudOf(3), 20);
    }

    @Sentence(of = 40, says = "All that section 1 tells (THE TAPE not), and z, is kept: 1.")
    static void sheetsAreNotKept(Due due) {
        BoltsByOrder x = new BoltsByOrder();
        x.sheet(0, 8, 1);
        x.image();
        x.write(0, 0, 5L);
        x.sheet(1, 8, 1);
        x.undo();
        due.is("write(0, 0, 0)", x.write(0, 0, 0L), 5);
        due.is("write(1, 0, 0)", x.write(1, 0, 0L), 0);
    }

    @Sentence(of = 41, says = "It becomes what was kept latest (which stays): how many RODS.")
    static void whatWasKeptStays(Due due) {
        BoltsByOrder x = withRods(2);
        x.image();
        String kept = Due.look(x);
        due.is("undo() at once", x.undo(), 2);
        for (int i = 0; i < 3; i++) {
            changeAll(x);
            due.is("undo() again", x.undo(), 2);
            due.holds("all is as it was kept", kept.equals(Due.look(x)));
        }
        due.is("tear()", x.tear(), 1);
    }

    @Sentence(of = 41, says = "It becomes what was kept latest (which stays): how many RODS.")
    static void onlyTheLatestIsKept(Due due) {
        BoltsByOrder x = withRods(8);
        x.image();
        for (int i = 0; i < 8; i++) {
            x.down(0);
        }
        due.is("image() of none", x.image(), 1);
        x.rod(3, 3);
        due.is("undo(): how many RODS", x.undo(), 0);
        due.is("undo() once more", x.undo(), 0);
        due.is("of(0, 0)", x.of(0, 0), Due.BEYOND);
    }

    @Sentence(of = 41, says = "NONE: nothing is kept.")
    static void undoOfNothingIsRefused(Due due) {
        BoltsByOrder x = withRods(2);
        due.refused(x, "undo() at first", x::undo, Due.NONE);
        x.image();
        x.tear();
        due.refused(x, "undo() behind tear()", x::undo, Due.NONE);
        x.image();
        due.is("undo() behind image()", x.undo(), 2);
    }

    @Sentence(of = 42, says = "Nothing is kept: 1 if something was, else 0.")
    static void tearOfNothingIsNoFinding(Due due) {
        BoltsByOrder x = withRods(1);
        due.answers(x, "tear() at first", x::tear, 0);
        x.image();
        x.image();
        String before = Due.look(x);
        due.answers(x, "tear()", x::tear, 1);
        due.answers(x, "tear() once more", x::tear, 0);
        due.holds("all is as it was", before.equals(Due.look(x)));
        due.is("undo()", x.undo(), Due.NONE);
    }

    // ---- count

    @Sentence(of = 43, says = "0 RODS, 1 bytes of THE TAPE, 2 HEIGHTS of all together, 3 PAID hours of all together.")
    static void theLeastAndTheGreatestCounts(Due due) {
        BoltsByOrder x = new BoltsByOrder();
        for (int what = 0; what < 4; what++) {
            due.is("count(" + what + ") at first", x.count(what), 0);
        }
        for (int i = 0; i < 8; i++) {
            x.rod(i % 6, i);
            x.set(i, 2, 60);
            x.pays(i, i, (i + 23) % 24);
        }
        Due.feed(x, " ".repeat(120));
        int[] greatest = {8, 120, 480, 184};
        for (int what = 0; what < 4; what++) {
            due.is("count(" + what + ")", x.count(what), greatest[what]);
        }
    }

    @Sentence(of = 43, says = "0 RODS, 1 bytes of THE TAPE, 2 HEIGHTS of all together, 3 PAID hours of all together.")
    static void oneThatIsTakenDownIsNotCounted(Due due) {
        BoltsByOrder x = withRods(2);
        x.set(1, 2, 60);
        x.pays(1, 23, 0);
        due.is("count(2)", x.count(2), 70);
        due.is("count(3)", x.count(3), 1);
        x.down(1);
        due.is("count(0)", x.count(0), 1);
        due.is("count(2)", x.count(2), 10);
        due.is("count(3)", x.count(3), 0);
        x.down(0);
        due.is("count(2)", x.count(2), 0);
    }

    @Sentence(of = 43, says = "BEYOND: another what.")
    static void anotherWhatOfCountIsRefused(Due due) {
        BoltsByOrder x = withRods(1);
        for (int what : new int[] {LEAST, -1, 4, MOST}) {
            due.refused(x, "count(" + what + ")", () -> x.count(what), Due.BEYOND);
        }
    }

    // ---- status

    @Sentence(of = 44, says = "How many acts answered a finding ever")
    static void noneAtFirst(Due due) {
        BoltsByOrder x = new BoltsByOrder();
        for (int which = -1; which <= 6; which++) {
            due.is("status(" + which + ")", x.status(which), 0);
        }
    }

    @Sentence(of = 44, says = "How many acts answered a finding ever")
    static void eachIsCountedUpToThe512thCall(Due due) {
        for (int which : new int[] {3, -1}) {
            BoltsByOrder x = new BoltsByOrder();
            for (int i = 0; i < 511; i++) {
                x.undo();
            }
            due.is("status(" + which + "), the 512th call", x.status(which), 511);
        }
    }

    @Sentence(of = 44, says = "(undo() takes none back)")
    static void undoTakesNoFindingBack(Due due) {
        BoltsByOrder x = withRods(1);
        x.image();
        x.cloudOf(5);
        x.lays(0);
        x.undo();
        due.is("status(0)", x.status(0), 1);
        due.is("status(5)", x.status(5), 1);
        due.is("status(-1)", x.status(-1), 2);
    }

    @Sentence(of = 44, says = "which -1: all, 0 to 6: BEYOND to SIZE.")
    static void eachFindingIsCountedByItself(Due due) {
        BoltsByOrder x = withRods(8);
        int[] times = {2, 1, 3, 1, 2, 4, 1};
        x.cloudOf(5);
        x.cloud(5, 0);
        x.rod(0, 0);
        x.as(0, 1);
        x.as(0, 2);
        x.as(0, 3);
        x.undo();
        x.lays(0);
        x.write(1, 0, 0L);
        x.book(2, 0);
        x.read(3, 0);
        x.sheet(0, 8, -1);
        Due.goTo(x, 9999);
        x.hours(1);
        x.days(1);
        int all = 0;
        for (int which = 0; which <= 6; which++) {
            due.is("status(" + which + ")", x.status(which), times[which]);
            all += times[which];
        }
        due.is("status(-1)", x.status(-1), all);
    }

    @Sentence(of = 44, says = "BEYOND (counted from then on): another one.")
    static void anotherOneIsItselfCounted(Due due) {
        BoltsByOrder x = new BoltsByOrder();
        int counted = 0;
        for (int which : new int[] {LEAST, -2, 7, MOST}) {
            due.is("status(" + which + ")", x.status(which), Due.BEYOND);
            counted++;
            due.is("status(0)", x.status(0), counted);
            due.is("status(-1)", x.status(-1), counted);
        }
    }
}
