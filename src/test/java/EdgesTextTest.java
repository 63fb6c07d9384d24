/** Boundary cases of promises 31 to 33: the tape, and the text of a plain. */
public final class EdgesTextTest {
    private static final int LEAST = Integer.MIN_VALUE;
    private static final int MOST = Integer.MAX_VALUE;

    public static void main(String[] args) throws Exception {
        Edges.run(31, 33, EdgesTextTest.class);
    }

    private static BoltsByOrder fed(String text) {
        BoltsByOrder x = new BoltsByOrder();
        Due.feed(x, text);
        return x;
    }

    // ---- feed

    @Sentence(of = 31, says = "THE TAPE gets the n lowest bytes of a number behind it, the highest of these first (n 1 to 4)")
    static void oneByteOr4TheHighestFirst(Due due) {
        BoltsByOrder x = new BoltsByOrder();
        due.is("feed(gr, 2), its highest bytes left out", x.feed(0xFFFF6772, 2), 2);
        due.is("feed(o, 1), its highest bytes left out", x.feed(0x7878786F, 1), 3);
        due.is("feed(ws , 3), its highest byte left out", x.feed(0x80777320, 3), 6);
        due.is("feed(5; g, 4)", x.feed(0x353B2067, 4), 10);
        due.is("feed(rows, 4)", x.feed(0x726F7773, 4), 14);
        due.is("feed(50, 2)", x.feed(0x3530, 2), 16);
        due.is("plain()", x.plain(), 2);
        due.is("cloudOf(3)", x.cloudOf(3), 50);
    }

    @Sentence(of = 31, says = "THE TAPE gets the n lowest bytes of a number behind it, the highest of these first (n 1 to 4)")
    static void bytesOfNumbersBelow0(Due due) {
        BoltsByOrder x = new BoltsByOrder();
        Due.feed(x, "grows 1");
        due.is("feed(-1, 4): four bytes 255", x.feed(-1, 4), 11);
        due.is("plain(): the first of them begins no TOKEN", x.plain(), -8);
        Due.feed(x, "grows 1");
        due.is("feed(;, 4) behind bytes 128, 0, 0", x.feed(0x8000003B, 4), 11);
        due.is("plain()", x.plain(), -8);
        Due.feed(x, "grows 1");
        due.is("feed(0, 1): a byte 0", x.feed(0, 1), 8);
        due.is("plain()", x.plain(), -8);
        Due.feed(x, "grows 1");
        due.is("feed(MIN, 1): a byte 0", x.feed(LEAST, 1), 8);
        due.is("plain()", x.plain(), -8);
    }

    @Sentence(of = 31, says = "how many it has.")
    static void from1To120(Due due) {
        BoltsByOrder x = new BoltsByOrder();
        for (int i = 1; i <= 120; i++) {
            due.is("feed(32, 1)", x.feed(32, 1), i);
        }
        due.is("count(1)", x.count(1), 120);
        due.is("plain()", x.plain(), -121);
    }

    @Sentence(of = 31, says = "BEYOND: n.")
    static void noByteOrMoreThan4IsRefused(Due due) {
        BoltsByOrder x = fed("abc");
        for (int n : new int[] {LEAST, -4, -1, 0, 5, MOST}) {
            due.refused(x, "feed(65, " + n + ")", () -> x.feed(65, n), Due.BEYOND);
        }
        due.is("count(1)", x.count(1), 3);
    }

    @Sentence(of = 31, says = "FULL.")
    static void bytesThatHaveNoRoomAreRefusedWhole(Due due) {
        for (int room = 0; room < 4; room++) {
            BoltsByOrder x = fed(" ".repeat(120 - room));
            for (int n = room + 1; n <= 4; n++) {
                int asked = n;
                due.refused(x, "feed(65, " + n + ") with room for " + room, () -> x.feed(65, asked), Due.FULL);
            }
            if (room > 0) {
                due.is("feed(65, " + room + ")", x.feed(65, room), 120);
            }
            due.is("count(1)", x.count(1), 120);
        }
    }

    @Sentence(of = 31, says = "FULL.")
    static void nothingOfARefusedFeedIsOnTheTape(Due due) {
        BoltsByOrder x = fed("grows 1;".repeat(14) + "grows ");
        due.is("feed(123, 3) of 118", x.feed(0x313233, 3), Due.FULL);
        due.is("feed(50, 2) of 118", x.feed(0x3530, 2), 120);
        due.is("feed(;, 1) of 120", x.feed(';', 1), Due.FULL);
        due.is("plain()", x.plain(), 15);
        due.is("cloudOf(3)", x.cloudOf(3), 50);
        due.is("feed(65, 1) of an empty one", x.feed(65, 1), 1);
    }

    // ---- wipe

    @Sentence(of = 32, says = "THE TAPE is empty: how many it had.")
    static void anEmptyAndAFullTapeAreWiped(Due due) {
        BoltsByOrder x = new BoltsByOrder();
        due.is("wipe() of none", x.wipe(), 0);
        x.feed(65, 1);
        due.is("wipe() of 1", x.wipe(), 1);
        due.is("wipe() once more", x.wipe(), 0);
        Due.feed(x, " ".repeat(120));
        due.is("wipe() of 120", x.wipe(), 120);
        due.is("count(1)", x.count(1), 0);
        Due.feed(x, "grows 7");
        due.is("plain(): nothing is left of what was wiped", x.plain(), 1);
        due.is("status(-1)", x.status(-1), 0);
    }

    // ---- plain

    @Sentence(of = 33, says = "THE TAPE is THE TEXT of a PLAIN, whose ITEMS come to what there is")
    static void itemsComeToWhatThereIs(Due due) {
        BoltsByOrder x = fed("oak at 15 high 60 from 23 to 22;cloud 9;rod at 0");
        x.rod(5, 3);
        x.cloud(1, 99);
        x.cloud(2, -1);
        x.hours(1);
        due.is("plain()", x.plain(), 3);
        due.is("count(0)", x.count(0), 3);
        due.is("KIND of ROD 0", x.of(0, 0), 5);
        int[] oak = {3, 15, 60, 23, 22, 0, 0};
        int[] rod = {0, 0, 10, 0, 0, 0, 0};
        for (int what = 0; what < 7; what++) {
            due.is("of(1, " + what + ")", x.of(1, what), oak[what]);
            due.is("of(2, " + what + ")", x.of(2, what), rod[what]);
        }
        due.is("PLACE", x.cloudOf(0), 9);
        due.is("CHARGE that isn't told stays", x.cloudOf(1), 20);
        due.is("DRIFT that isn't told stays", x.cloudOf(2), 1);
        due.is("HOUR stays", x.now(0), 1);
    }

    @Sentence(of = 33, says = "THE TAPE is THE TEXT of a PLAIN, whose ITEMS come to what there is")
    static void aNewRodHasNothingOfOneThatWasTakenDown(Due due) {
        BoltsByOrder x = new BoltsByOrder();
        x.rod(0, 0);
        x.set(0, 2, 33);
        x.pays(0, 23, 22);
        x.cloud(1, 60);
        x.hours(1);
        due.is("down(0)", x.down(0), 60);
        due.is("plain()", Due.plain(x, "rod at 1"), 1);
        int[] fresh = {0, 1, 10, 0, 0, 0, 0};
        for (int what = 0; what < 7; what++) {
            due.is("of(0, " + what + ")", x.of(0, what), fresh[what]);
        }
    }

    @Sentence(of = 33, says = "and empty then: how many ITEMS.")
    static void oneItemAtLeast15AtMost(Due due) {
        BoltsByOrder x = fed("grows 0");
        due.is("plain() of one", x.plain(), 1);
        due.is("count(1)", x.count(1), 0);
        due.is("plain() of nothing", x.plain(), -1);
        Due.feed(x, "grows 0;".repeat(14) + "grows 9");
        due.is("plain() of 15", x.plain(), 15);
        due.is("count(1)", x.count(1), 0);
        due.is("cloudOf(3)", x.cloudOf(3), 9);
    }

    @Sentence(of = 33, says = "With a FAULT: -1 less its place")
    static void aFaultAtTheFirstAndBehindTheLastByte(Due due) {
        due.is("plain() of nothing", fed("").plain(), -1);
        due.is("plain() of ;", fed(";").plain(), -1);
        due.is("plain() of 120 blanks", fed(" ".repeat(120)).plain(), -121);
        due.is("plain() of 119 blanks and ;", fed(" ".repeat(119) + ";").plain(), -120);
        due.is("plain() of 120 letters", fed("a".repeat(120)).plain(), -1);
        due.is("plain() of rod and 117 blanks", fed("rod" + " ".repeat(117)).plain(), -121);
    }

    @Sentence(of = 33, says = "(nothing changes but that THE TAPE is empty")
    static void nothingComesOfTheItemsAheadOfAFault(Due due) {
        String[] texts = {"kite at 1 high 2 from 3 to 4;cloud 5 charge 6 left;grows 7;breaks 88;", "rod at 1;rod at 16", "grows 7;x",
            "cloud 5 charge 100", "cloud 5 charge 99 left left", "rod at 1 high 61", "rod at 1 from 1 to 24", "breaks 99 1"};
        for (String text : texts) {
            BoltsByOrder x = new BoltsByOrder();
            x.rod(1, 2);
            x.seed(7);
            x.hours(5);
            String before = Due.look(x);
            Due.feed(x, text);
            due.holds("plain() of \"" + text + "\" has a fault", x.plain() < 0);
            due.is("count(1)", x.count(1), 0);
            due.holds("nothing changes by \"" + text + "\"", before.equals(Due.look(x)));
        }
    }

    @Sentence(of = 33, says = "no finding).")
    static void aFaultIsNotCounted(Due due) {
        BoltsByOrder x = fed("rod at 16");
        due.answers(x, "plain()", x::plain, -8);
        due.answers(x, "plain() of nothing", x::plain, -1);
        for (int i = 0; i < 8; i++) {
            x.rod(0, 0);
        }
        Due.feed(x, "rod at 1");
        due.answers(x, "plain(), a 9th", x::plain, -1);
        due.is("status(1)", x.status(1), 0);
    }
}
