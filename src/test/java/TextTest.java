/** Promises 31 to 33: the tape and the text of a plain. */
public final class TextTest {
    private static final Due due = new Due();

    public static void main(String[] args) {
        feeding();
        understood();
        faults();
        ninth();
        nothingChanges();
        due.end();
    }

    private static void feeding() {
        due.promise(31);
        BoltsByOrder x = new BoltsByOrder();
        due.is("feed(0, 0)", x.feed(0, 0), Due.BEYOND);
        due.is("feed(0, 5)", x.feed(0, 5), Due.BEYOND);
        due.is("feed(0, -1)", x.feed(0, -1), Due.BEYOND);
        for (int i = 1; i <= 29; i++) {
            due.is("feed(.., 4)", x.feed(0x20202020, 4), 4 * i);
        }
        due.is("feed(.., 1)", x.feed(0x20, 1), 117);
        due.is("four are too many", x.feed(0x20202020, 4), Due.FULL);
        due.is("BEYOND ahead of FULL", x.feed(0, 5), Due.BEYOND);
        due.is("three are not", x.feed(0x202020, 3), 120);
        due.is("one is too many", x.feed(0x20, 1), Due.FULL);
        due.is("count(1)", x.count(1), 120);
        due.promise(33);
        due.is("blanks alone end too early", x.plain(), -121);
        due.is("count(1)", x.count(1), 0);
        due.promise(32);
        x.feed(0, 3);
        due.is("wipe()", x.wipe(), 3);
        due.is("wipe()", x.wipe(), 0);
        due.promise(31);
        // The lowest bytes alone, the highest of these first: "grows 7".
        x.feed(0x7a7a6772, 2);
        x.feed(0x7a6f7773, 3);
        x.feed(0x41412037, 2);
        due.promise(33);
        due.is("plain()", x.plain(), 1);
        due.is("GROWS", x.cloudOf(3), 7);
    }

    private static void isRod(BoltsByOrder x, int rod, int... want) {
        for (int what = 0; what < want.length; what++) {
            due.is("of(" + rod + ", " + what + ")", x.of(rod, what), want[what]);
        }
    }

    private static void isCloud(BoltsByOrder x, int... want) {
        for (int what = 0; what < 5; what++) {
            due.is("cloudOf(" + what + ")", x.cloudOf(what), want[what]);
        }
    }

    private static void understood() {
        due.promise(33);
        BoltsByOrder x = new BoltsByOrder();
        due.is("six kinds", Due.plain(x, "rod at 0;copper at 15 high 60;kite at 1 from 23 to 0;oak at 2"), 4);
        due.is("six kinds", Due.plain(x, " cathedral at3high0from0to23 ; poacher  at 004 high 07 from 5 to 5 "), 2);
        isRod(x, 0, 0, 0, 10, 0, 0, 0, 0);
        isRod(x, 1, 1, 15, 60, 0, 0, 0, 0);
        isRod(x, 2, 2, 1, 10, 23, 0, 0, 0);
        isRod(x, 3, 3, 2, 10, 0, 0, 0, 0);
        isRod(x, 4, 4, 3, 0, 0, 23, 0, 0);
        isRod(x, 5, 5, 4, 7, 5, 5, 0, 0);
        due.is("cloud 5", Due.plain(x, "cloud 5"), 1);
        isCloud(x, 5, 0, 1, 20, 60);
        due.is("cloud 15 charge 99 left", Due.plain(x, "cloud 15 charge 99 left"), 1);
        isCloud(x, 15, 99, -1, 20, 60);
        due.is("cloud 0 still", Due.plain(x, "cloud 0 still"), 1);
        isCloud(x, 0, 99, 0, 20, 60);
        due.is("cloud 1 charge 0", Due.plain(x, "cloud 1 charge 0"), 1);
        isCloud(x, 1, 0, 0, 20, 60);
        due.is("cloud 1 right", Due.plain(x, "cloud 1 right"), 1);
        isCloud(x, 1, 0, 1, 20, 60);
        due.is("the last item stays", Due.plain(x, "grows 0;breaks 20;grows 50;breaks 99;grows 0"), 5);
        isCloud(x, 1, 0, 1, 0, 99);
        due.is("count(0)", x.count(0), 6);
        due.is("no finding", x.status(-1), 0);
    }

    private static void isFault(String text, int place) {
        BoltsByOrder x = new BoltsByOrder();
        due.is("the fault of '" + text + "'", Due.plain(x, text), -1 - place);
        due.is("the tape behind '" + text + "'", x.count(1), 0);
        due.is("rods behind '" + text + "'", x.count(0), 0);
        isCloud(x, 0, 0, 1, 20, 60);
        due.is("no finding behind '" + text + "'", x.status(-1), 0);
    }

    private static void faults() {
        due.promise(33);
        for (String text : new String[] {"", "  ", "rod", "rod at", "rod at ", "rod at 1;", "rod at 1 ; ", "rod at 1 high",
            "rod at 1 from", "rod at 1 from 2", "rod at 1 from 2 to", "cloud", "cloud 1 charge", "grows ", "breaks"}) {
            isFault(text, text.length());
        }
        isFault("at", 0);
        isFault(";", 0);
        isFault("5", 0);
        isFault(" !", 1);
        isFault("Rod at 1", 0);
        isFault("rods at 1", 0);
        isFault("ro at 1", 0);
        isFault("rodat 1", 0);
        isFault("mod at 1", 0);
        isFault("rodz at 1", 0);
        isFault("rod it 1", 4);
        isFault("rod 1", 4);
        isFault("rod rod", 4);
        isFault("rod at at", 7);
        isFault("rod at 16", 7);
        isFault("rod at 1000", 7);
        isFault("rod at 4294967297", 7);
        isFault("rod at 99999999999999999999999999", 7);
        isFault("rod at -1", 7);
        isFault("rod at 1 1", 9);
        isFault("rod at 1 rod at 1", 9);
        isFault("rod at 1 high 61", 14);
        isFault("rod at 1 high high", 14);
        isFault("rod at 1 high 60 high 60", 17);
        isFault("rod at 1 from 24 to 1", 14);
        isFault("rod at 1 from 1 2", 16);
        isFault("rod at 1 from 1 to 24", 19);
        isFault("rod at 1 from 1 to 2 high 3", 21);
        isFault("rod at 1 to 2", 9);
        isFault("rod at 1;;rod at 1", 9);
        isFault("rod at 1\nhigh 3", 8);
        isFault("rod at 1\thigh 3", 8);
        isFault("cloud 16", 6);
        isFault("cloud 1 charge 100", 15);
        isFault("cloud 1 left charge 5", 13);
        isFault("cloud 1 left right", 13);
        isFault("cloud charge 5", 6);
        isFault("cloud at 5", 6);
        isFault("grows 51", 6);
        isFault("grows 5 5", 8);
        isFault("breaks 19", 7);
        isFault("breaks 100", 7);
        isFault("breaks 50 grows 5", 10);
        isFault("breaks 50,grows 5", 9);
        isFault("grows 5;breaks 50;rod at 3;cloud 5 up", 35);
        isFault("grows 5\u0000", 7);
        isFault("grows 5\u00ff", 7);
        isFault("grows 5{", 7);
        isFault("grows 5`", 7);
        isFault("grows 5:", 7);
        isFault("grows 5/", 7);
    }

    private static void ninth() {
        due.promise(33);
        BoltsByOrder x = new BoltsByOrder();
        for (int i = 0; i < 6; i++) {
            x.rod(0, i);
        }
        due.is("a seventh, an eighth and a ninth", Due.plain(x, "oak at 7;oak at 8;oak at 9"), -19);
        due.is("count(0)", x.count(0), 6);
        due.is("a seventh and an eighth", Due.plain(x, "oak at 7;oak at 8"), 2);
        due.is("count(0)", x.count(0), 8);
        due.is("a ninth", Due.plain(x, "grows 9; oak up"), -10);
        due.is("GROWS", x.cloudOf(3), 20);
        due.is("none", Due.plain(x, "grows 9"), 1);
        due.is("no finding", x.status(-1), 0);
    }

    private static void nothingChanges() {
        due.promise(33);
        BoltsByOrder x = new BoltsByOrder();
        x.rod(0, 3);
        x.set(0, 2, 60);
        x.pays(0, 3, 4);
        x.hours(7);
        x.seed(77);
        due.is("understood", Due.plain(x, "rod at 5"), 1);
        due.is("HOUR stays", x.now(0), 7);
        due.is("STRAYS stay", x.now(4), 60);
        due.is("BILL stays", x.of(0, 5), 60);
        due.is("BOLTS stay", x.of(0, 6), 2);
        due.is("z stays", x.seed(77), 77);
        due.is("PLACE stays", x.cloudOf(0), 7);
    }
}
