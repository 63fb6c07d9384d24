/** Boundary cases of the terms of the text; EdgesTermsTest runs them. */
final class EdgesOfTextTerms {
    private static final int TERMS = Sentence.TERMS;

    private EdgesOfTextTerms() {
    }

    /** The text on a new object comes to so many items. */
    private static BoltsByOrder comes(Due due, String text, int items) {
        BoltsByOrder x = new BoltsByOrder();
        due.answers(x, "plain() of \"" + text + "\"", () -> Due.plain(x, text), items);
        due.is("count(1) behind \"" + text + "\"", x.count(1), 0);
        return x;
    }

    /** The text on a new object has a fault there, and nothing comes of it. */
    private static void faults(Due due, String text, int place) {
        BoltsByOrder x = new BoltsByOrder();
        String before = Due.look(x);
        due.answers(x, "plain() of \"" + text + "\"", () -> Due.plain(x, text), -1 - place);
        due.holds("nothing comes of \"" + text + "\"", before.equals(Due.look(x)));
    }

    private static void rodIs(Due due, BoltsByOrder x, int rod, int... parts) {
        for (int what = 0; what < parts.length; what++) {
            due.is("of(" + rod + ", " + what + ")", x.of(rod, what), parts[what]);
        }
    }

    private static void cloudIs(Due due, BoltsByOrder x, int... parts) {
        for (int what = 0; what < parts.length; what++) {
            due.is("cloudOf(" + what + ")", x.cloudOf(what), parts[what]);
        }
    }

    // ---- tokens

    @Sentence(of = TERMS, says = "THE TEXT of a PLAIN, from THE TAPE (bytes, at most 120).")
    static void aTapeOf120BytesIsFull(Due due) {
        BoltsByOrder x = new BoltsByOrder();
        for (int i = 1; i <= 30; i++) {
            due.is("feed(.., 4)", x.feed(0x20202020, 4), 4 * i);
        }
        due.refused(x, "feed(32, 1) of 120", () -> x.feed(32, 1), Due.FULL);
        due.is("count(1)", x.count(1), 120);
    }

    @Sentence(of = TERMS, says = "THE TEXT of a PLAIN, from THE TAPE (bytes, at most 120).")
    static void theLast120thByteIsRead(Due due) {
        String text = "cathedral at 10 high 60 from 10 to 20;".repeat(2) + "poacher at 15 high 60 from 23 to 22;grows 50";
        due.is("bytes", text.length(), 120);
        BoltsByOrder x = comes(due, text, 4);
        rodIs(due, x, 2, 5, 15, 60, 23, 22);
        cloudIs(due, x, 0, 0, 1, 50, 60);
    }

    @Sentence(of = TERMS, says = "TOKENS, each as long as can be")
    static void aWordIsAsLongAsCanBe(Due due) {
        faults(due, "rodat 1", 0);
        faults(due, "rods at 1", 0);
        faults(due, "ro d at 1", 0);
        faults(due, "rod att 1", 4);
        faults(due, "cloud 1 leftright", 8);
        comes(due, "rod at1high2from3to4", 1);
    }

    @Sentence(of = TERMS, says = "TOKENS, each as long as can be")
    static void aNumberIsAsLongAsCanBe(Due due) {
        rodIs(due, comes(due, "rod at 15", 1), 0, 0, 15);
        faults(due, "rod at 1 5", 9);
        faults(due, "rod at 155", 7);
        cloudIs(due, comes(due, "cloud 1charge 10", 1), 1, 10);
    }

    @Sentence(of = TERMS, says = "WORDS (letters a to z)")
    static void lettersAreAToZ(Due due) {
        faults(due, "Rod at 1", 0);
        faults(due, "rod at 1 `", 9);
        faults(due, "rod at 1 {", 9);
        faults(due, "rod at 1 a", 9);
        faults(due, "rod at 1 z", 9);
        faults(due, "rod` at 1", 3);
        faults(due, "rod{ at 1", 3);
        faults(due, "roD at 1", 0);
        faults(due, "roda at 1", 0);
        faults(due, "rodz at 1", 0);
        faults(due, "arod at 1", 0);
        faults(due, "rod at 1 highz 2", 9);
    }

    @Sentence(of = TERMS, says = "NUMBERS (digits, 999 at most)")
    static void digitsAre0To9(Due due) {
        rodIs(due, comes(due, "rod at 0", 1), 0, 0, 0);
        rodIs(due, comes(due, "rod at 9", 1), 0, 0, 9);
        faults(due, "rod at /", 7);
        faults(due, "rod at :", 7);
        faults(due, "rod at 1/", 8);
        faults(due, "rod at 1:", 8);
        faults(due, "rod at -1", 7);
    }

    @Sentence(of = TERMS, says = "NUMBERS (digits, 999 at most)")
    static void aNumberAbove999NeverWrapsAround(Due due) {
        String[] numbers = {"99", "999", "1000", "1001", "10000", "65536", "65537", "4294967295", "4294967296", "4294967297",
            "18446744073709551616", "18446744073709551617", "1".repeat(100), "1" + "0".repeat(99)};
        for (String number : numbers) {
            faults(due, "rod at " + number, 7);
            faults(due, "cloud " + number, 6);
        }
    }

    @Sentence(of = TERMS, says = "SIGN ;")
    static void theOnlySignIsTheSemicolon(Due due) {
        comes(due, "rod at 1;rod at 2", 2);
        faults(due, "rod at 1:rod at 2", 8);
        faults(due, "rod at 1<rod at 2", 8);
        faults(due, "rod at 1,rod at 2", 8);
    }

    @Sentence(of = TERMS, says = "blanks may stand between.")
    static void noBlankOrMany(Due due) {
        comes(due, "rod at1;oak at2", 2);
        comes(due, "   rod   at   1   ;   oak   at   2   ", 2);
        faults(due, " ", 1);
        faults(due, "    ", 4);
        faults(due, "  xod at 1", 2);
        faults(due, "rod at 1\t", 8);
        faults(due, "rod at 1\n", 8);
        faults(due, "rod at 1!", 8);
        faults(due, "rod at 1\0", 8);
    }

    // ---- items

    @Sentence(of = TERMS, says = "TEXT: ITEM { ; ITEM }.")
    static void oneItemAtLeastAndOneBehindEachSign(Due due) {
        faults(due, "", 0);
        faults(due, ";", 0);
        faults(due, "grows 1;", 8);
        faults(due, "grows 1; ", 9);
        faults(due, "grows 1;;grows 2", 8);
        faults(due, ";grows 1", 0);
        faults(due, "grows 1 grows 2", 8);
        comes(due, "grows 1", 1);
        cloudIs(due, comes(due, "grows 1;grows 2", 2), 0, 0, 1, 2, 60);
    }

    @Sentence(of = TERMS, says = "TEXT: ITEM { ; ITEM }.")
    static void asManyItemsAsTheTapeHolds(Due due) {
        String text = "grows 1;".repeat(14) + "grows 50";
        due.is("bytes", text.length(), 120);
        cloudIs(due, comes(due, text, 15), 0, 0, 1, 50, 60);
    }

    @Sentence(of = TERMS, says = "ITEM: the name of a KIND (rod copper kite oak cathedral poacher), at, a NUMBER (a PLACE)")
    static void aRodIsInPlace0To15(Due due) {
        String[] names = {"rod", "copper", "kite", "oak", "cathedral", "poacher"};
        for (int kind = 0; kind < 6; kind++) {
            String name = names[kind];
            rodIs(due, comes(due, name + " at 0", 1), 0, kind, 0, 10, 0, 0, 0, 0);
            rodIs(due, comes(due, name + " at 15", 1), 0, kind, 15, 10, 0, 0, 0, 0);
            faults(due, name + " at 16", name.length() + 4);
            faults(due, name + " 1", name.length() + 1);
            faults(due, name + " at;", name.length() + 3);
        }
    }

    @Sentence(of = TERMS, says = "perhaps high and a NUMBER (0 to 60)")
    static void highIs0To60(Due due) {
        rodIs(due, comes(due, "rod at 1", 1), 0, 0, 1, 10);
        rodIs(due, comes(due, "rod at 1 high 0", 1), 0, 0, 1, 0);
        rodIs(due, comes(due, "rod at 1 high 60", 1), 0, 0, 1, 60);
        faults(due, "rod at 1 high 61", 14);
        faults(due, "rod at 1 high", 13);
        faults(due, "rod at 1 high;", 13);
        faults(due, "rod at 1 high high 2", 14);
        faults(due, "rod at 1 high 2 high 3", 16);
    }

    @Sentence(of = TERMS, says = "perhaps from, a NUMBER, to, a NUMBER (0 to 23 both): a new ROD")
    static void fromAndToAre0To23(Due due) {
        rodIs(due, comes(due, "rod at 1", 1), 0, 0, 1, 10, 0, 0);
        rodIs(due, comes(due, "rod at 1 from 0 to 23", 1), 0, 0, 1, 10, 0, 23);
        rodIs(due, comes(due, "rod at 1 from 23 to 0", 1), 0, 0, 1, 10, 23, 0);
        rodIs(due, comes(due, "rod at 1 high 5 from 7 to 7", 1), 0, 0, 1, 5, 7, 7);
        faults(due, "rod at 1 from 24 to 0", 14);
        faults(due, "rod at 1 from 0 to 24", 19);
        faults(due, "rod at 1 from 0", 15);
        faults(due, "rod at 1 from 0 to", 18);
        faults(due, "rod at 1 from", 13);
        faults(due, "rod at 1 from;", 13);
        faults(due, "rod at 1 from 2;", 15);
        faults(due, "rod at 1 from 2 to;", 18);
        faults(due, "rod at 1 from to 0", 14);
        faults(due, "rod at 1 to 2", 9);
        faults(due, "rod at 1 from 2 to 3 high 4", 21);
    }

    @Sentence(of = TERMS, says = "cloud, a NUMBER (a PLACE)")
    static void theCloudIsInPlace0To15(Due due) {
        cloudIs(due, comes(due, "cloud 0", 1), 0, 0, 1, 20, 60);
        cloudIs(due, comes(due, "cloud 15", 1), 15, 0, 1, 20, 60);
        faults(due, "cloud 16", 6);
        faults(due, "cloud", 5);
        faults(due, "cloud left", 6);
    }

    @Sentence(of = TERMS, says = "perhaps charge and a NUMBER (0 to 99)")
    static void chargeIs0To99(Due due) {
        cloudIs(due, comes(due, "cloud 1 charge 0", 1), 1, 0);
        cloudIs(due, comes(due, "cloud 1 charge 99", 1), 1, 99);
        faults(due, "cloud 1 charge 100", 15);
        faults(due, "cloud 1 charge", 14);
        faults(due, "cloud 1 charge;", 14);
        BoltsByOrder x = new BoltsByOrder();
        x.cloud(1, 7);
        due.is("plain()", Due.plain(x, "cloud 3"), 1);
        due.is("CHARGE that isn't told stays", x.cloudOf(1), 7);
    }

    @Sentence(of = TERMS, says = "perhaps left, right or still (DRIFT -1, 1, 0)")
    static void oneOfThreeDriftsOrNone(Due due) {
        cloudIs(due, comes(due, "cloud 0 left", 1), 0, 0, -1);
        cloudIs(due, comes(due, "cloud 15 charge 9 still", 1), 15, 9, 0);
        cloudIs(due, comes(due, "cloud 0 left;cloud 15 right", 2), 15, 0, 1);
        cloudIs(due, comes(due, "cloud 0 still;cloud 2", 2), 2, 0, 0);
        faults(due, "cloud 0 left right", 13);
        faults(due, "cloud 0 left charge 3", 13);
        faults(due, "left", 0);
    }

    @Sentence(of = TERMS, says = "grows and a NUMBER (0 to 50)")
    static void growsIs0To50(Due due) {
        cloudIs(due, comes(due, "grows 0", 1), 0, 0, 1, 0, 60);
        cloudIs(due, comes(due, "grows 50", 1), 0, 0, 1, 50, 60);
        faults(due, "grows 51", 6);
        faults(due, "grows", 5);
    }

    @Sentence(of = TERMS, says = "breaks and a NUMBER (20 to 99).")
    static void breaksIs20To99(Due due) {
        cloudIs(due, comes(due, "breaks 20", 1), 0, 0, 1, 20, 20);
        cloudIs(due, comes(due, "breaks 99", 1), 0, 0, 1, 20, 99);
        faults(due, "breaks 19", 7);
        faults(due, "breaks 0", 7);
        faults(due, "breaks 100", 7);
        faults(due, "breaks", 6);
    }

    // ---- faults

    @Sentence(of = TERMS, says = "FAULT: the place (from 0) of the first byte of the first TOKEN that can't stand there")
    static void theFirstOfSeveralFaultsIsTold(Due due) {
        faults(due, "xrod at 99", 0);
        faults(due, "rod xat 99", 4);
        faults(due, "rod at 99 xhigh", 7);
        faults(due, "grows 51;breaks 19", 6);
        faults(due, "grows 1 ; breaks 19 ; cloud 16", 17);
    }

    @Sentence(of = TERMS, says = "a NUMBER that may not be")
    static void aNumberThatMayNotBe(Due due) {
        faults(due, "7", 0);
        faults(due, "rod 7", 4);
        faults(due, "rod at 16", 7);
        faults(due, "rod at 1 high 2 3", 16);
    }

    @Sentence(of = TERMS, says = "another WORD")
    static void anotherWord(Due due) {
        faults(due, "tree at 1", 0);
        faults(due, "rod on 1", 4);
        faults(due, "rod at one", 7);
        faults(due, "rod at 1 wide 2", 9);
        faults(due, "rod at 1 from 2 till 3", 16);
        faults(due, "cloud 1 up", 8);
        faults(due, "grows at 1", 6);
    }

    @Sentence(of = TERMS, says = "a byte that begins no TOKEN")
    static void eachByteThatBeginsNoToken(Due due) {
        for (int b = 0; b < 256; b++) {
            boolean begins = b == ' ' || b == ';' || (b >= '0' && b <= '9') || (b >= 'a' && b <= 'z');
            BoltsByOrder x = new BoltsByOrder();
            Due.feed(x, "grows 1 ");
            x.feed(b, 1);
            Due.feed(x, "; grows 2");
            int place = b == ';' ? 9 : 8;
            due.is("plain() with byte " + b, x.plain(), b == ' ' ? 2 : -1 - place);
            if (!begins) {
                x.feed(b, 1);
                due.is("plain() of byte " + b + " alone", x.plain(), -1);
            }
        }
    }

    @Sentence(of = TERMS, says = "the name of a KIND for a 9th: its own")
    static void theNameOfA9thIsTheFault(Due due) {
        String eight = "oak at 1;".repeat(7) + "oak at 2";
        due.is("count(0)", comes(due, eight, 8).count(0), 8);
        faults(due, eight + ";kite at 3", 72);
        faults(due, eight + "; rod", 73);
        faults(due, eight + ";rod at 99", 72);
        faults(due, eight + ";rod rod", 72);
        faults(due, eight + ";rods at 1", 72);
        faults(due, eight + ";grows 51", 78);
        comes(due, eight + ";grows 50", 9);
    }

    @Sentence(of = TERMS, says = "the name of a KIND for a 9th: its own")
    static void rodsThatAreThereAlreadyAreCounted(Due due) {
        BoltsByOrder x = new BoltsByOrder();
        for (int i = 0; i < 7; i++) {
            x.rod(0, 0);
        }
        due.is("an 8th and a 9th", Due.plain(x, "oak at 1;poacher at 2"), -10);
        due.is("count(0)", x.count(0), 7);
        due.is("an 8th", Due.plain(x, "oak at 1"), 1);
        due.is("a 9th", Due.plain(x, "rod at 1"), -1);
        due.is("count(0)", x.count(0), 8);
        x.down(0);
        due.is("an 8th again", Due.plain(x, "rod at 1"), 1);
    }

    @Sentence(of = TERMS, says = "or how many bytes there are if it ends too early.")
    static void aTextThatEndsTooEarly(Due due) {
        faults(due, "", 0);
        faults(due, "rod", 3);
        faults(due, "rod ", 4);
        faults(due, "rod at", 6);
        faults(due, "rod at   ", 9);
        faults(due, "rod at 1 from 2 to", 18);
        faults(due, "rod at 1;", 9);
        faults(due, " ".repeat(120), 120);
        faults(due, "grows" + " ".repeat(115), 120);
    }
}
