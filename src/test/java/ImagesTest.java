/** Promises 40 to 44: images, counts, status. */
public final class ImagesTest {
    private static final Due due = new Due();

    public static void main(String[] args) {
        images();
        latest();
        counts();
        status();
        due.end();
    }

    private static BoltsByOrder laid() {
        BoltsByOrder x = new BoltsByOrder();
        x.rod(1, 3);
        x.set(0, 2, 60);
        x.pays(0, 3, 4);
        x.rod(0, 9);
        x.hours(7);
        x.seed(99);
        return x;
    }

    private static void isLaid(BoltsByOrder x) {
        int[] first = {1, 3, 60, 3, 4, 54, 2};
        int[] second = {0, 9, 10, 0, 0, 0, 0};
        for (int what = 0; what < 7; what++) {
            due.is("of(0, " + what + ")", x.of(0, what), first[what]);
            due.is("of(1, " + what + ")", x.of(1, what), second[what]);
        }
        int[] cloud = {7, 20, 1, 20, 60};
        for (int what = 0; what < 5; what++) {
            due.is("cloudOf(" + what + ")", x.cloudOf(what), cloud[what]);
        }
        due.is("count(0)", x.count(0), 2);
        due.is("HOUR", x.now(0), 7);
        due.is("STRAYS", x.now(4), 60);
        due.is("z", x.seed(99), 99);
    }

    private static void change(BoltsByOrder x) {
        x.hours(100);
        x.days(3);
        x.down(0);
        x.rod(5, 5);
        x.rod(5, 6);
        x.pays(0, 5, 9);
        x.cloud(3, 1);
        x.cloud(4, 21);
        x.seed(5);
    }

    private static void images() {
        BoltsByOrder x = laid();
        due.promise(41);
        due.is("undo() of nothing", x.undo(), Due.NONE);
        isLaid(x);
        due.promise(42);
        due.is("tear() of nothing", x.tear(), 0);
        due.promise(40);
        due.is("image()", x.image(), 1);
        isLaid(x);
        change(x);
        x.feed(0x41414141, 4);
        x.sheet(0, 8, 1);
        x.write(0, 0, 7L);
        due.promise(41);
        due.is("undo()", x.undo(), 2);
        isLaid(x);
        due.is("the tape stays", x.count(1), 4);
        due.is("sheets stay", x.write(0, 0, 7L), 7);
        due.is("status stays", x.status(-1), 1);
        change(x);
        due.is("undo() again", x.undo(), 2);
        isLaid(x);
        due.promise(42);
        change(x);
        due.is("tear()", x.tear(), 1);
        due.is("tear() again", x.tear(), 0);
        due.is("undo() behind tear()", x.undo(), Due.NONE);
        due.is("count(0)", x.count(0), 3);
    }

    private static void latest() {
        due.promise(40);
        BoltsByOrder x = new BoltsByOrder();
        x.image();
        x.rod(2, 2);
        x.image();
        x.rod(3, 3);
        due.is("the latest", x.undo(), 1);
        due.is("the latest stays", x.undo(), 1);
        due.promise(42);
        due.is("all is torn", x.tear(), 1);
        due.is("none is below it", x.undo(), Due.NONE);
        x.down(0);
        due.promise(40);
        due.is("image() of no rods", x.image(), 1);
        x.rod(1, 1);
        due.promise(41);
        due.is("undo() to no rods", x.undo(), 0);
    }

    private static void counts() {
        due.promise(43);
        BoltsByOrder x = laid();
        x.pays(1, 20, 2);
        x.feed(0, 3);
        due.is("count(0)", x.count(0), 2);
        due.is("count(1)", x.count(1), 3);
        due.is("count(2)", x.count(2), 70);
        due.is("count(3)", x.count(3), 7);
        due.is("count(-1)", x.count(-1), Due.BEYOND);
        due.is("count(4)", x.count(4), Due.BEYOND);
    }

    private static void status() {
        due.promise(44);
        BoltsByOrder x = new BoltsByOrder();
        for (int which = -1; which < 7; which++) {
            due.is("status(" + which + ")", x.status(which), 0);
        }
        due.is("status(7)", x.status(7), Due.BEYOND);
        due.is("status(-2)", x.status(-2), Due.BEYOND);
        for (int i = 0; i < 31; i++) {
            x.feed(0, 4);
        }
        x.rod(3, 0);
        x.as(0, 1);
        x.undo();
        x.steals(9);
        for (int i = 0; i < 100; i++) {
            x.hours(100);
        }
        x.write(0, 0, 0L);
        x.sheet(0, 8, -1);
        x.sheet(0, 0, -1);
        x.plain();
        int[] want = {3, 1, 1, 1, 1, 1, 2};
        for (int which = 0; which < 7; which++) {
            due.is("status(" + which + ")", x.status(which), want[which]);
        }
        due.is("status(-1)", x.status(-1), 10);
        x.tear();
        x.image();
        x.copy(0, 0, 0, 0, 0);
        x.undo();
        due.is("undo() takes none back", x.status(5), 2);
        due.is("undo() takes none back", x.status(-1), 11);
    }
}
