/** Promises 27 to 29. */
public final class TextTest {
    public static void main(String[] args) {
        feed();
        feedWrong();
        feedFull();
        wipe();
        items();
        whatIsNotGivenStays();
        laterItemsCount();
        blanks();
        numbers();
        faults();
        otherWords();
        faultsChangeNothing();
        bytesThatBeginNothing();
        fullTape();
        Due.end();
    }

    private static void feed() {
        MuffinBells x = new MuffinBells();
        Due.is("feed(\"man \", 4)", x.feed(('m' << 24) | ('a' << 16) | ('n' << 8) | ' ', 4), 4);
        Due.is("feed of the lowest byte alone", x.feed(0x61626300 | '3', 1), 5);
        Due.is("feed of three", x.feed(0x7f000000 | (' ' << 16) | ('b' << 8) | 'a', 3), 8);
        Due.is("feed of two", x.feed(0xffff0000 | ('c' << 8) | 'k', 2), 10);
        Due.is("count(1)", x.count(1), 10);
        Due.is("terrace()", x.terrace(), 1);
        Due.is("AT", x.now(1), 3);
        Due.is("WAY", x.now(2), 0);
        Due.is("THE TAPE is empty", x.count(1), 0);
        Due.is("feed of a number below 0", x.feed(-1, 4), 4);
        Due.is("terrace()", x.terrace(), -1);
    }

    private static void feedWrong() {
        MuffinBells x = new MuffinBells();
        int[] wrong = {0, 5, -1, Integer.MIN_VALUE, Integer.MAX_VALUE};
        for (int n : wrong) {
            Due.is("feed(0, " + n + ")", x.feed(0, n), Due.BEYOND);
        }
        Due.is("count(1)", x.count(1), 0);
        Due.is("status(0)", x.status(0), wrong.length);
    }

    private static void feedFull() {
        MuffinBells x = new MuffinBells();
        for (int i = 1; i <= 29; i++) {
            Due.is("feed", x.feed(0x20202020, 4), 4 * i);
        }
        Due.is("feed to 119", x.feed(0x202020, 3), 119);
        Due.is("feed of two to 121", x.feed(0x2020, 2), Due.FULL);
        Due.is("feed of four to 123", x.feed(0x2020, 4), Due.FULL);
        Due.is("feed of five, asked first", x.feed(0x2020, 5), Due.BEYOND);
        Due.is("count(1)", x.count(1), 119);
        Due.is("feed to 120", x.feed(0x20, 1), 120);
        Due.is("feed to 121", x.feed(0x20, 1), Due.FULL);
        Due.is("findings FULL", x.status(1), 3);
        Due.is("terrace() of blanks", x.terrace(), -121);
    }

    private static void wipe() {
        MuffinBells x = new MuffinBells();
        Due.is("wipe() of nothing", x.wipe(), 0);
        Due.feed(x, "tray 7");
        Due.is("wipe()", x.wipe(), 6);
        Due.is("count(1)", x.count(1), 0);
        Due.is("terrace() after", x.terrace(), -1);
        Due.is("TRAY", x.now(3), 40);
    }

    private static void items() {
        String[] kinds = {"house", "gay", "grave", "choir", "waltz", "lent"};
        for (int kind = 0; kind < 6; kind++) {
            MuffinBells x = new MuffinBells();
            x.turn(kind, 5 - kind);
            Due.is(kinds[kind], Due.terrace(x, kinds[kind] + " " + kind + " mood 20 pence 999"), 1);
            Due.is("KIND", x.of(kind, 0), kind);
            Due.is("MOOD", x.of(kind, 1), 20);
            Due.is("PENCE", x.of(kind, 2), 999);
        }
        MuffinBells x = new MuffinBells();
        Due.is("all items", Due.terrace(x, "lent 7 mood 0 pence 0; man 6 back; tray 999; crack 99; gay 0 pence 5"), 5);
        Due.same("all items", Due.state(x), "0 6 0 999 -1 99 0 1 10 5 0 " + "0 10 30 0 ".repeat(6) + "5 0 0 0 0");
        Due.is("no finding", x.status(-1), 0);
    }

    private static void whatIsNotGivenStays() {
        MuffinBells x = new MuffinBells();
        x.set(2, 1, 17);
        x.set(2, 2, 170);
        x.set(2, 3, 7);
        Due.is("kind alone", Due.terrace(x, "choir 2"), 1);
        Due.is("KIND", x.of(2, 0), Due.CHOIR);
        Due.is("MOOD", x.of(2, 1), 17);
        Due.is("PENCE", x.of(2, 2), 170);
        Due.is("ATE", x.of(2, 3), 7);
        Due.is("mood alone", Due.terrace(x, "house 2 mood 4"), 1);
        Due.is("MOOD", x.of(2, 1), 4);
        Due.is("PENCE", x.of(2, 2), 170);
        x.man(1, 0);
        x.man(3, 5);
        Due.is("man without back", Due.terrace(x, "man 4"), 1);
        Due.is("WAY is 1", x.now(2), 1);
        Due.is("RANG stays", x.now(4), 5);
    }

    private static void laterItemsCount() {
        MuffinBells x = new MuffinBells();
        Due.is("twice", Due.terrace(x, "tray 1;tray 2;gay 0 mood 1;grave 0;man 1 back;man 2"), 6);
        Due.is("TRAY", x.now(3), 2);
        Due.is("KIND", x.of(0, 0), Due.GRAVE);
        Due.is("MOOD", x.of(0, 1), 1);
        Due.is("AT", x.now(1), 2);
        Due.is("WAY", x.now(2), 1);
    }

    private static void blanks() {
        MuffinBells x = new MuffinBells();
        Due.is("no blanks", Due.terrace(x, "gay3mood7pence8;man2back;tray5"), 3);
        Due.is("MOOD", x.of(3, 1), 7);
        Due.is("WAY", x.now(2), 0);
        Due.is("many blanks", Due.terrace(x, "   lent   4   mood   6  ;   crack   9   "), 2);
        Due.is("CRACK", x.now(5), 9);
        fault("houses 1", 0);
        fault("house 1moodpence 3", 7);
        fault("hou se 1", 0);
        fault("house 1 2", 8);
    }

    private static void numbers() {
        MuffinBells x = new MuffinBells();
        Due.is("with noughts before", Due.terrace(x, "tray 0000000000000000000012;house 007"), 2);
        Due.is("TRAY", x.now(3), 12);
        fault("tray 1000", 5);
        fault("tray 4294967297", 5);
        fault("tray 18446744073709551617", 5);
        fault("crack 100", 6);
        fault("house 8", 6);
        fault("man 8", 4);
        fault("gay 1 mood 21", 11);
        fault("gay 1 pence 1000", 12);
        fault("gay 10", 4);
    }

    private static void faults() {
        fault("", 0);
        fault("   ", 3);
        fault(";", 0);
        fault("3", 0);
        fault("mood 3", 0);
        fault("back", 0);
        fault("house", 5);
        fault("house ", 6);
        fault("house gay", 6);
        fault("house;", 5);
        fault("house 1;", 8);
        fault("house 1; ", 9);
        fault("house 1;;", 8);
        fault("house 1 mood", 12);
        fault("house 1 mood pence", 13);
        fault("house 1 mood;", 12);
        fault("house 1 pence 5 mood 5", 16);
        fault("house 1 mood 5 mood 5", 15);
        fault("house 1 pence", 13);
        fault("house 1 pence 5 pence 5", 16);
        fault("house 1 back", 8);
        fault("house 1 gay 2", 8);
        fault("man", 3);
        fault("man back", 4);
        fault("man 1 back back", 11);
        fault("man 1 mood 3", 6);
        fault("man 1 back 2", 11);
        fault("tray", 4);
        fault("tray crack 5", 5);
        fault("tray man 5", 5);
        fault("tray 5 6", 7);
        fault("crack", 5);
        fault("crack tray 5", 6);
        fault("crack 5 back", 8);
        fault("man 1; tray 2; cracks 3", 15);
        fault("man 1; tray 2; crac 3", 15);
        fault("tray a", 5);
        fault("crack a", 6);
        fault("house a", 6);
        fault("man tray 3", 4);
        fault("house tray 3", 6);
    }

    /** A word with one letter changed, lacking or added is another word. */
    private static void otherWords() {
        String[] texts = {"house 1", "gay 1", "grave 1", "choir 1", "waltz 1", "lent 1", "man 1", "tray 1", "crack 1"};
        for (String text : texts) {
            int length = text.indexOf(' ');
            for (int i = 0; i < length; i++) {
                fault(text.substring(0, i) + "x" + text.substring(i + 1), 0);
                fault(text.substring(0, i) + text.substring(i + 1), 0);
                fault(text.substring(0, i) + "x" + text.substring(i), 0);
            }
        }
        String[] behind = {"gay 1 mood 2", "gay 1 pence 2", "man 1 back"};
        for (String text : behind) {
            int start = text.indexOf('1') + 2;
            for (int i = start; i < start + 4; i++) {
                fault(text.substring(0, i) + "x" + text.substring(i + 1), start);
                fault(text.substring(0, i) + text.substring(i + 1), start);
            }
        }
    }

    private static void fault(String text, int place) {
        MuffinBells x = new MuffinBells();
        String before = Due.state(x);
        Due.is("terrace() of '" + text + "'", Due.terrace(x, text), -1 - place);
        Due.same("a FAULT in '" + text + "'", Due.state(x), before);
        Due.is("no finding", x.status(-1), 0);
    }

    private static void faultsChangeNothing() {
        MuffinBells x = Due.mixed(7);
        x.wipe();
        String before = Due.state(x);
        Due.is("a FAULT at the end", Due.terrace(x, "lent 0 mood 3 pence 3;man 3 back;tray 3;crack 3;x"), -49);
        Due.same("nothing changes", Due.state(x), before);
        Due.is("THE TAPE is empty", x.count(1), 0);
    }

    private static void bytesThatBeginNothing() {
        for (int b = 0; b < 256; b++) {
            boolean goesOn = b == ' ' || b >= '0' && b <= '9' || b == ';';
            MuffinBells x = new MuffinBells();
            Due.feed(x, "tray 1");
            x.feed(b, 1);
            int want = !goesOn ? -7 : b == ';' ? -8 : 1;
            Due.is("byte " + b + " behind an item", x.terrace(), want);
            Due.feed(x, "tray");
            x.feed(b, 1);
            Due.feed(x, "1");
            boolean isLetter = b >= 'a' && b <= 'z';
            boolean between = b == ' ' || b >= '0' && b <= '9';
            Due.is("byte " + b + " in an item", x.terrace(), isLetter ? -1 : between ? 1 : -5);
        }
    }

    private static void fullTape() {
        MuffinBells x = new MuffinBells();
        Due.is("a full tape", Due.feed(x, "man0;".repeat(23) + "man07"), 120);
        Due.is("its items", x.terrace(), 24);
        Due.is("AT", x.now(1), 7);
        Due.feed(x, "man0;".repeat(24));
        Due.is("a full tape that ends too early", x.terrace(), -121);
        Due.feed(x, "a".repeat(120));
        Due.is("one long word", x.terrace(), -1);
        Due.feed(x, "tray" + "0".repeat(116));
        Due.is("one long number", x.terrace(), 1);
        Due.is("TRAY", x.now(3), 0);
        Due.feed(x, "tray" + "9".repeat(116));
        Due.is("one long number", x.terrace(), -5);
    }
}
