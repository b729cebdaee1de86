/** The edges that promises 27 to 29 name, and those of THE TEXT in "Terms". */
public final class EdgesOfTextTest {
    private static final String[] KINDS = {"house", "gay", "grave", "choir", "waltz", "lent"};

    public static void main(String[] args) {
        feedWithin();
        feedTakesTheLowestBytes();
        feedUpToFull();
        feedIsAskedBeyondFirst();
        feedAfterFull();
        wipeOfEmptyAndFull();
        numberOfAHouse();
        numberOfAMood();
        numberOfPence();
        numberOfTheMan();
        numberOfTheTray();
        numberOfTheCrack();
        numbersAsLongAsCanBe();
        wordsAsLongAsCanBe();
        bytesNextToTheTokens();
        blanksBetween();
        endsTooEarly();
        firstOfTwoFaults();
        faultAtTheLastByte();
        oneItemAndMany();
        backAndElse();
        faultIsNoFinding();
        tapeIsEmptyThen();
        Due.end();
    }

    private static MuffinBells fed(int n) {
        MuffinBells x = Edge.furnished();
        x.wipe();
        for (int i = 0; i < n / 4; i++) {
            x.feed(0x20202020, 4);
        }
        if (n % 4 > 0) {
            x.feed(0x20202020, n % 4);
        }
        return x;
    }

    private static void feedWithin() {
        Edge.within("feed(bytes, n)", (x, n) -> x.feed(0x31323334, n), 1, 4);
    }

    private static void feedTakesTheLowestBytes() {
        String[] trays = {"4", "34", "234"};
        for (int n = 1; n <= 3; n++) {
            MuffinBells x = new MuffinBells();
            Due.feed(x, "tray ");
            Due.is("feed of " + n, x.feed(0x31323334, n), 5 + n);
            Due.is("terrace()", x.terrace(), 1);
            Due.is("TRAY", x.now(3), Integer.parseInt(trays[n - 1]));
        }
        MuffinBells x = new MuffinBells();
        Due.is("feed of 4, the highest first", x.feed(0x6d616e33, 4), 4);
        Due.is("terrace() of man3", x.terrace(), 1);
        Due.is("AT", x.now(1), 3);
        Due.is("feed of a byte of 255", x.feed(-1, 1), 1);
        Due.is("terrace() of a byte of 255", x.terrace(), -1);
        Due.feed(x, "man ");
        Due.is("feed of a byte with others above it", x.feed(0xffffff32, 1), 5);
        Due.is("terrace() of man 2", x.terrace(), 1);
        Due.is("AT", x.now(1), 2);
    }

    private static void feedUpToFull() {
        for (int k = 1; k <= 4; k++) {
            int n = k;
            Edge.accepted("feed of " + n + " to 120", () -> fed(120 - n), x -> x.feed(0, n), 120);
            Edge.refused("feed of " + n + " to 121", () -> fed(121 - n), x -> x.feed(0, n), Due.FULL);
            Edge.refused("feed of " + n + " to a full tape", () -> fed(120), x -> x.feed(0, n), Due.FULL);
        }
    }

    private static void feedIsAskedBeyondFirst() {
        int[] beyond = {0, 5, -1, Integer.MIN_VALUE, Integer.MAX_VALUE};
        for (int n : beyond) {
            Edge.refused("feed(0, " + n + ") to a full tape", () -> fed(120), x -> x.feed(0, n), Due.BEYOND);
        }
    }

    /** What was refused is not half there: the tape's last number is as it was. */
    private static void feedAfterFull() {
        MuffinBells x = fed(113);
        Due.is("feed to 118", Due.feed(x, "tray1"), 118);
        Due.is("feed of three", x.feed(0x323334, 3), Due.FULL);
        Due.is("count(1)", x.count(1), 118);
        Due.is("feed of two", x.feed(0x3536, 2), 120);
        Due.is("terrace()", x.terrace(), 1);
        Due.is("TRAY", x.now(3), 156);
        Due.is("feed to the tape that is empty then", x.feed(0, 4), 4);
    }

    private static void wipeOfEmptyAndFull() {
        Edge.accepted("wipe() of nothing", () -> fed(0), x -> x.wipe(), 0);
        Edge.accepted("wipe() of one", () -> fed(1), x -> x.wipe(), 1);
        Edge.accepted("wipe() of a full tape", () -> fed(120), x -> x.wipe(), 120);
        MuffinBells x = fed(120);
        x.wipe();
        Due.is("wipe() again", x.wipe(), 0);
        Due.is("feed after it", x.feed(0, 1), 1);
    }

    /** A text that stands, of so many items; then one whose FAULT is at a place, where nothing changes. */
    private static MuffinBells stands(String text, int items) {
        MuffinBells x = Edge.furnished();
        x.wipe();
        int found = x.status(-1);
        Due.is("terrace() of '" + text + "'", Due.terrace(x, text), items);
        Due.is("count(1) after '" + text + "'", x.count(1), 0);
        Due.is("findings of '" + text + "'", x.status(-1), found);
        return x;
    }

    private static void fault(String text, int place) {
        MuffinBells x = stands(text, -1 - place);
        MuffinBells untouched = Edge.furnished();
        untouched.wipe();
        Due.same("'" + text + "' changes nothing", Edge.whole(x), Edge.whole(untouched));
    }

    private static void numberOfAHouse() {
        for (int kind = 0; kind < 6; kind++) {
            String name = KINDS[kind];
            Due.is("KIND of house 0", stands(name + " 0", 1).of(0, 0), kind);
            Due.is("KIND of house 7", stands(name + " 7", 1).of(7, 0), kind);
            fault(name + " 8", name.length() + 1);
            fault(name + " 10", name.length() + 1);
            fault(name + " -1", name.length() + 1);
        }
    }

    private static void numberOfAMood() {
        Due.is("MOOD 0", stands("gay 7 mood 0", 1).of(7, 1), 0);
        Due.is("MOOD 20", stands("gay 0 mood 20", 1).of(0, 1), 20);
        fault("gay 0 mood 21", 11);
        fault("gay 0 mood 21 pence 5", 11);
        fault("gay 0 mood 999", 11);
        fault("gay 0 mood -1", 11);
    }

    private static void numberOfPence() {
        Due.is("PENCE 0", stands("gay 7 pence 0", 1).of(7, 2), 0);
        Due.is("PENCE 999", stands("gay 0 pence 999", 1).of(0, 2), 999);
        Due.is("PENCE 999 behind a mood", stands("gay 0 mood 3 pence 999", 1).of(0, 2), 999);
        fault("gay 0 pence 1000", 12);
        fault("gay 0 mood 3 pence 1000", 19);
        fault("gay 0 pence -1", 12);
    }

    private static void numberOfTheMan() {
        Due.is("AT 0", stands("man 0", 1).now(1), 0);
        Due.is("AT 7", stands("man 7", 1).now(1), 7);
        fault("man 8", 4);
        fault("man 8 back", 4);
        fault("man -1", 4);
    }

    private static void numberOfTheTray() {
        Due.is("TRAY 0", stands("tray 0", 1).now(3), 0);
        Due.is("TRAY 999", stands("tray 999", 1).now(3), 999);
        fault("tray 1000", 5);
        fault("tray -1", 5);
    }

    private static void numberOfTheCrack() {
        Due.is("CRACK 0", stands("crack 0", 1).now(5), 0);
        Due.is("CRACK 99", stands("crack 99", 1).now(5), 99);
        fault("crack 100", 6);
        fault("crack 999", 6);
        fault("crack -1", 6);
    }

    private static void numbersAsLongAsCanBe() {
        Due.is("TRAY of three digits", stands("tray 123", 1).now(3), 123);
        Due.is("TRAY with noughts before", stands("tray 0000000000999", 1).now(3), 999);
        fault("tray 0000000001000", 5);
        fault("tray 9999", 5);
        fault("tray 4294967295", 5);
        fault("tray 4294967296", 5);
        fault("tray 4294967297", 5);
        fault("tray 18446744073709551616", 5);
        fault("tray 1 2", 7);
        fault("tray 99 9", 8);
        fault("house 77", 6);
    }

    private static void wordsAsLongAsCanBe() {
        fault("trays 5", 0);
        fault("tra 5", 0);
        fault("tra", 0);
        fault("tray5tray 6", 5);
        fault("manback 5", 0);
        fault("man 5 backs", 6);
        fault("man 5 bac", 6);
        fault("gay 1 moodpence 5", 6);
        fault("gay 1 moods 5", 6);
        fault("gay 1 pences 5", 6);
        fault("gaygay 1", 0);
        fault("xray 5", 0);
        fault("trax 5", 0);
        fault("gay 1 food 5", 6);
        fault("man 5 pack", 6);
        stands("tray5;man3back;gay1mood2pence3", 3);
    }

    private static void bytesNextToTheTokens() {
        char[] none = {0, 9, 10, 13, 31, 33, 47, 58, 60, 64, 65, 90, 96, 123, 127, 128, 160, 255};
        for (char c : none) {
            fault("tray 5" + c, 6);
            fault(c + "tray 5", 0);
            fault("tray" + c + "5", 4);
            fault("tray 5;" + c, 7);
        }
        Due.is("TRAY by the least digits", stands("tray 000", 1).now(3), 0);
        Due.is("TRAY by the greatest digits", stands("tray 999", 1).now(3), 999);
        fault("a", 0);
        fault("z", 0);
    }

    private static void blanksBetween() {
        Due.is("blanks before and behind", stands("  tray  5  ", 1).now(3), 5);
        Due.is("none", stands("tray5", 1).now(3), 5);
        Due.is("around the sign", stands("tray 4 ; tray 6", 2).now(3), 6);
        fault("tr ay 5", 0);
        fault("tray 5 5", 7);
    }

    private static void endsTooEarly() {
        fault("", 0);
        fault(" ", 1);
        fault("tray", 4);
        fault("tray ", 5);
        fault("tray 5;", 7);
        fault("tray 5; ", 8);
        fault("lent", 4);
        fault("lent 3 mood", 11);
        fault("lent 3 mood 5 pence", 19);
        fault("lent 3 pence  ", 14);
        fault("man", 3);
        fault("crack", 5);
        fault("tray 5" + " ".repeat(113) + ";", 120);
        fault(" ".repeat(120), 120);
        fault(" ".repeat(116) + "tray", 120);
    }

    private static void firstOfTwoFaults() {
        fault("tray 1000; crack 100", 5);
        fault("tray 5; crack 100; tray 1000", 14);
        fault("lent 8 mood 21 pence 1000", 5);
        fault("lent 7 mood 21 pence 1000", 12);
        fault("lent 7 mood 20 pence 1000", 21);
        fault("lent 7 pence 3 mood 3", 15);
        fault("tray 5 ? crack", 7);
    }

    private static void faultAtTheLastByte() {
        fault("tray 5" + " ".repeat(113) + "x", 119);
        fault("tray 5" + " ".repeat(113) + "5", 119);
        fault("tray 5" + " ".repeat(113) + "?", 119);
        fault(" ".repeat(119) + ";", 119);
        Due.is("a full tape whose last byte counts", stands(" ".repeat(115) + "tray7", 1).now(3), 7);
    }

    private static void oneItemAndMany() {
        stands("tray 1", 1);
        stands("tray 1;tray 2", 2);
        Due.is("AT by the last of many", stands("man0;".repeat(23) + "man 6", 24).now(1), 6);
        fault("man0;".repeat(24), 120);
        fault("tray 1;;tray 2", 7);
        fault(";tray 1", 0);
        fault("tray 1 tray 2", 7);
    }

    private static void backAndElse() {
        MuffinBells back = stands("man 3 back", 1);
        Due.is("AT", back.now(1), 3);
        Due.is("WAY of back", back.now(2), 0);
        Due.is("WAY else", stands("man 3", 1).now(2), 1);
        Due.is("WAY of another item", stands("tray 3", 1).now(2), 0);
        fault("man 3 back back", 11);
        fault("man back 3", 4);
    }

    private static void faultIsNoFinding() {
        MuffinBells x = new MuffinBells();
        Due.is("terrace() of nothing", x.terrace(), -1);
        Due.terrace(x, "x");
        for (int which = -1; which <= 6; which++) {
            Due.is("status(" + which + ") after faults", x.status(which), 0);
        }
    }

    private static void tapeIsEmptyThen() {
        MuffinBells x = new MuffinBells();
        Due.terrace(x, "tray 5");
        Due.is("terrace() again", x.terrace(), -1);
        Due.terrace(x, "tray x");
        Due.is("terrace() again, after a fault", x.terrace(), -1);
        Due.is("wipe()", x.wipe(), 0);
        Due.is("TRAY", x.now(3), 5);
    }
}
