/** The edges that promises 30 to 35 name. */
public final class EdgesOfSheetsTest {
    private static final int[] BITS = {8, 16, 64};
    private static final int[] NO_SHEETS = {-1, 4, Integer.MIN_VALUE, Integer.MAX_VALUE};
    private static final int LOWEST = Integer.MIN_VALUE;
    private static final int HIGHEST = Integer.MAX_VALUE;

    public static void main(String[] args) {
        sheetNumbers();
        sheetBits();
        sheetSizes();
        sheetMissing();
        sheetIsAskedInThisOrder();
        sheetIsAllNew();
        writeWithin();
        writeToNone();
        writeIsAskedInThisOrder();
        writeLowestBits();
        copyFitsJust();
        copyOfNone();
        copyDoesNotFit();
        copyIsAskedInThisOrder();
        copyOnItself();
        laysWithin();
        laysMoods();
        laysHouses();
        bookWithin();
        bookSizes();
        readWithin();
        readIsAskedInThisOrder();
        readOfNoNumbers();
        readOfAll();
        readNeedsThemAll();
        readOfNoTone();
        Due.end();
    }

    private static MuffinBells with(int bits, long... numbers) {
        MuffinBells x = new MuffinBells();
        x.sheet(0, bits, numbers.length);
        for (int i = 0; i < numbers.length; i++) {
            x.write(0, i, numbers[i]);
        }
        return x;
    }

    private static void sheetNumbers() {
        Edge.within("sheet(s, 8, 3)", (x, s) -> x.sheet(s, 8, 3), 0, 3);
        Edge.within("sheet(s, 0, 3)", (x, s) -> x.sheet(s, 0, 3), 0, 3);
    }

    private static void sheetBits() {
        for (int bits : BITS) {
            Edge.accepted("sheet(0, " + bits + ", 5)", Edge::furnished, x -> x.sheet(0, bits, 5), 5);
        }
        Edge.accepted("sheet(0, 0, 5)", Edge::furnished, x -> x.sheet(0, 0, 5), 0);
        int[] others = {-64, -16, -8, -1, 1, 7, 9, 15, 17, 24, 32, 63, 65, 128, 264, LOWEST, HIGHEST};
        for (int bits : others) {
            Edge.refused("sheet(0, " + bits + ", 5)", x -> x.sheet(0, bits, 5), Due.BEYOND);
        }
    }

    private static void sheetSizes() {
        int[] all = {0, 8, 16, 64};
        int[] sizes = {0, 1, 39, 40};
        for (int bits : all) {
            String told = "sheet(0, " + bits + ", ";
            for (int n : sizes) {
                Edge.accepted(told + n + ")", Edge::furnished, x -> x.sheet(0, bits, n), bits == 0 ? 0 : n);
            }
            Edge.refused(told + "-1)", x -> x.sheet(0, bits, -1), Due.SIZE);
            Edge.refused(told + "lowest)", x -> x.sheet(0, bits, LOWEST), Due.SIZE);
            Edge.refused(told + "41)", x -> x.sheet(0, bits, 41), Due.BEYOND);
            Edge.refused(told + "highest)", x -> x.sheet(0, bits, HIGHEST), Due.BEYOND);
        }
    }

    private static void sheetMissing() {
        MuffinBells x = with(8, 5, 6);
        Due.is("sheet(0, 0, 40)", x.sheet(0, 0, 40), 0);
        Due.is("write", x.write(0, 0, 1), Due.MISSING);
        Due.is("lays", x.lays(0), Due.MISSING);
        Due.is("sheet(0, 8, 0)", x.sheet(0, 8, 0), 0);
        Due.is("an empty one isn't MISSING", x.lays(0), 0);
        Due.is("but has no number", x.write(0, 0, 1), Due.BEYOND);
    }

    private static void sheetIsAskedInThisOrder() {
        Edge.refused("no such sheet, other bits, below 0", x -> x.sheet(4, 7, -1), Due.BEYOND);
        Edge.refused("no such sheet, below 0", x -> x.sheet(-1, 8, -1), Due.BEYOND);
        Edge.refused("other bits, below 0", x -> x.sheet(0, 7, -1), Due.BEYOND);
        Edge.refused("below 0", x -> x.sheet(0, 8, -1), Due.SIZE);
    }

    private static void sheetIsAllNew() {
        for (int bits : BITS) {
            MuffinBells x = new MuffinBells();
            x.sheet(3, 64, 40);
            for (int i = 0; i < 40; i++) {
                x.write(3, i, -1 - i);
            }
            x.sheet(3, bits, 40);
            for (int i = 0; i < 40; i++) {
                Due.is("number " + i + " of a new sheet of " + bits, x.write(3, i, 7), 0);
            }
        }
    }

    private static void writeWithin() {
        for (int s = 0; s < 3; s++) {
            int sheet = s;
            Edge.within("write(" + s + ", i, 1)", (x, i) -> x.write(sheet, i, 1), 0, 2 - s);
        }
        Edge.accepted("write(0, 39, 1) of forty", () -> with(8, new long[40]), x -> x.write(0, 39, 1), 0);
        Edge.refused("write(0, 40, 1) of forty", () -> with(8, new long[40]), x -> x.write(0, 40, 1), Due.BEYOND);
        for (int s : NO_SHEETS) {
            Edge.refused("write(" + s + ", 0, 1)", x -> x.write(s, 0, 1), Due.BEYOND);
        }
    }

    private static void writeToNone() {
        Edge.refused("write(0, 0, 1) of none", () -> with(64), x -> x.write(0, 0, 1), Due.BEYOND);
        Edge.refused("write(0, -1, 1) of none", () -> with(64), x -> x.write(0, -1, 1), Due.BEYOND);
        Edge.refused("write(3, 0, 1)", x -> x.write(3, 0, 1), Due.MISSING);
    }

    private static void writeIsAskedInThisOrder() {
        Edge.refused("no such sheet, no such number", x -> x.write(4, -1, 1), Due.BEYOND);
        Edge.refused("MISSING, no such number below", x -> x.write(3, -1, 1), Due.MISSING);
        Edge.refused("MISSING, no such number above", x -> x.write(3, 40, 1), Due.MISSING);
    }

    private static void writeLowestBits() {
        long[][] eight = {{0, 0}, {127, 127}, {128, -128}, {255, -1}, {256, 0}, {257, 1}, {-1, -1}, {-128, -128},
            {-129, 127}, {Long.MAX_VALUE, -1}, {Long.MIN_VALUE, 0}};
        keeps(8, eight);
        long[][] sixteen = {{128, 128}, {32767, 32767}, {32768, -32768}, {65535, -1}, {65536, 0}, {65537, 1}, {-1, -1},
            {-32768, -32768}, {-32769, 32767}, {Long.MAX_VALUE, -1}, {Long.MIN_VALUE, 0}};
        keeps(16, sixteen);
        long[][] all = {{32768, 32768}, {1L << 31, 1L << 31}, {1L << 32, 1L << 32}, {-1, -1},
            {Long.MAX_VALUE, Long.MAX_VALUE}, {Long.MIN_VALUE, Long.MIN_VALUE}};
        keeps(64, all);
    }

    private static void keeps(int bits, long[][] cases) {
        for (long[] c : cases) {
            Edge.accepted(bits + " bits of " + c[0], () -> with(bits, c[0]), x -> x.write(0, 0, 0), c[1]);
        }
    }

    /** Sheet 0 has the numbers 1 to 5, sheet 1 as many bits and three numbers, all 0. */
    private static MuffinBells two(int bits) {
        MuffinBells x = with(bits, 1, 2, 3, 4, 5);
        x.sheet(1, bits, 3);
        return x;
    }

    private static void rowIs(String told, MuffinBells x, int s, long... want) {
        for (int i = 0; i < want.length; i++) {
            Due.is(told + ": number " + i, x.write(s, i, 0), want[i]);
        }
        Due.is(told + ": no more", x.write(s, want.length, 0), Due.BEYOND);
    }

    private static void copyFitsJust() {
        for (int bits : BITS) {
            MuffinBells x = two(bits);
            Due.is("copy to all of it", x.copy(0, 2, 1, 0, 3), 3);
            rowIs("copied", x, 1, 3, 4, 5);
            MuffinBells y = two(bits);
            Due.is("copy of the last to the last", y.copy(0, 4, 1, 2, 1), 1);
            rowIs("copied", y, 1, 0, 0, 5);
            MuffinBells z = two(bits);
            Due.is("copy of all of it", z.copy(1, 0, 0, 1, 3), 3);
            rowIs("copied", z, 0, 1, 0, 0, 0, 5);
        }
    }

    private static void copyOfNone() {
        int[][] places = {{0, 0}, {5, 0}, {0, 3}, {5, 3}};
        for (int[] p : places) {
            MuffinBells x = two(8);
            Due.is("copy of none", x.copy(0, p[0], 1, p[1], 0), 0);
            rowIs("none is copied", x, 1, 0, 0, 0);
        }
        Edge.accepted("copy of none of none", () -> with(16), x -> x.copy(0, 0, 0, 0, 0), 0);
        Edge.refused("copy of one of none", () -> with(16), x -> x.copy(0, 0, 0, 0, 1), Due.BEYOND);
    }

    private static void copyDoesNotFit() {
        int[][] wrong = {{3, 0, 3}, {0, 1, 3}, {0, 0, 4}, {5, 0, 1}, {0, 3, 1}, {6, 0, 0}, {0, 4, 0},
            {-1, 0, 1}, {0, -1, 1}, {0, 0, -1}, {-1, -1, -1}, {-1, 0, 0}, {0, -1, 0},
            {HIGHEST, 0, 1}, {0, HIGHEST, 1}, {0, 0, HIGHEST}, {1, 1, HIGHEST}, {HIGHEST, HIGHEST, HIGHEST},
            {LOWEST, 0, 1}, {0, LOWEST, 1}, {0, 0, LOWEST}, {LOWEST, LOWEST, LOWEST}, {HIGHEST, 0, LOWEST}};
        for (int[] w : wrong) {
            String told = "copy(0, " + w[0] + ", 1, " + w[1] + ", " + w[2] + ")";
            Edge.refused(told, () -> two(8), x -> x.copy(0, w[0], 1, w[1], w[2]), Due.BEYOND);
        }
    }

    /** Of the furnished sheets, 3 is MISSING, and the others are not of as many bits. */
    private static void copyIsAskedInThisOrder() {
        for (int s : NO_SHEETS) {
            Edge.refused("copy from sheet " + s, x -> x.copy(s, -1, 3, -1, -1), Due.BEYOND);
            Edge.refused("copy to sheet " + s, x -> x.copy(3, -1, s, -1, -1), Due.BEYOND);
        }
        Edge.refused("copy from a MISSING one", x -> x.copy(3, -1, 0, -1, -1), Due.MISSING);
        Edge.refused("copy to a MISSING one", x -> x.copy(0, -1, 3, -1, -1), Due.MISSING);
        Edge.refused("copy of a MISSING one to itself", x -> x.copy(3, 0, 3, 0, 0), Due.MISSING);
        for (int s = 0; s < 3; s++) {
            int from = s;
            int to = (s + 1) % 3;
            Edge.refused("copy to other bits", x -> x.copy(from, 0, to, 0, 1), Due.KIND);
            Edge.refused("copy to other bits, below 0", x -> x.copy(to, -1, from, -1, -1), Due.KIND);
            Edge.refused("copy below 0", x -> x.copy(from, -1, from, 0, 1), Due.BEYOND);
        }
    }

    private static void copyOnItself() {
        MuffinBells x = two(64);
        Due.is("one further", x.copy(0, 0, 0, 1, 4), 4);
        rowIs("as they all were", x, 0, 1, 1, 2, 3, 4);
        MuffinBells y = two(64);
        Due.is("one back", y.copy(0, 1, 0, 0, 4), 4);
        rowIs("as they all were", y, 0, 2, 3, 4, 5, 5);
        MuffinBells z = two(64);
        Due.is("all to where it is", z.copy(0, 0, 0, 0, 5), 5);
        rowIs("as they all were", z, 0, 1, 2, 3, 4, 5);
    }

    private static void laysWithin() {
        for (int s : NO_SHEETS) {
            Edge.refused("lays(" + s + ")", x -> x.lays(s), Due.BEYOND);
        }
        Edge.refused("lays(3)", x -> x.lays(3), Due.MISSING);
        Edge.accepted("lays(0)", Edge::furnished, x -> x.lays(0), 2);
        Edge.accepted("lays(3) that is there", EdgesOfSheetsTest::lastSheet, x -> x.lays(3), 8);
    }

    private static MuffinBells lastSheet() {
        MuffinBells x = new MuffinBells();
        x.sheet(3, 16, 40);
        return x;
    }

    private static void laysMoods() {
        long[][] cases = {{-1, 10}, {0, 0}, {1, 1}, {19, 19}, {20, 20}, {21, 10}, {Long.MIN_VALUE, 10},
            {Long.MAX_VALUE, 10}, {1L << 32, 10}, {(1L << 32) + 20, 10}};
        for (long[] c : cases) {
            MuffinBells x = with(64, 5, c[0], 6);
            boolean came = c[0] >= 0 && c[0] <= 20;
            Due.is("lays(0) with " + c[0], x.lays(0), came ? 3 : 2);
            Due.is("MOOD of house 0", x.of(0, 1), 5);
            Due.is("MOOD of house 1 by " + c[0], x.of(1, 1), c[1]);
            Due.is("MOOD of house 2", x.of(2, 1), 6);
            Due.is("MOOD of house 3", x.of(3, 1), 10);
        }
    }

    private static void laysHouses() {
        int[][] cases = {{0, 0}, {1, 1}, {7, 7}, {8, 8}, {9, 8}, {40, 8}};
        for (int[] c : cases) {
            MuffinBells x = with(8, new long[c[0]]);
            Due.is("lays(0) of " + c[0], x.lays(0), c[1]);
            Due.is("MOODS then", x.count(2), 80 - 10 * c[1]);
            Due.is("MOOD of house 7", x.of(7, 1), c[1] == 8 ? 0 : 10);
        }
    }

    private static void bookWithin() {
        for (int s : NO_SHEETS) {
            Edge.refused("book(" + s + ")", x -> x.book(s), Due.BEYOND);
        }
        Edge.refused("book(3)", x -> x.book(3), Due.MISSING);
        Edge.accepted("book(0)", Edge::furnished, x -> x.book(0), 3);
        Edge.accepted("book(3) that is there", EdgesOfSheetsTest::lastSheet, x -> x.book(3), 40);
    }

    private static void bookSizes() {
        int[] sizes = {0, 1, 2, 39, 40};
        for (int n : sizes) {
            for (int bits : BITS) {
                MuffinBells x = Edge.furnished();
                x.man(3, -1);
                x.sheet(3, bits, n);
                Due.is("book(3) of " + n, x.book(3), n);
                for (int i = 0; i < n; i++) {
                    Due.is("number " + i + " of " + bits + " bits", x.write(3, i, 0), x.rang(i));
                }
                Due.is("the first: none", n == 0 ? -1 : x.rang(0), -1);
            }
        }
    }

    private static void readWithin() {
        Edge.within("read(0, house)", (x, house) -> x.read(0, house), 0, 7);
        Edge.accepted("read(3, 0) that is there", EdgesOfSheetsTest::lastSheet, x -> x.read(3, 0), 0);
    }

    private static void readIsAskedInThisOrder() {
        for (int s : NO_SHEETS) {
            Edge.refused("read(" + s + ", 8)", x -> x.read(s, 8), Due.BEYOND);
            Edge.refused("read(" + s + ", 0)", x -> x.read(s, 0), Due.BEYOND);
        }
        Edge.refused("read(3, 0)", x -> x.read(3, 0), Due.MISSING);
        Edge.refused("read(3, 8)", x -> x.read(3, 8), Due.MISSING);
        Edge.refused("read(3, -1)", x -> x.read(3, -1), Due.MISSING);
        Edge.refused("read(0, 8)", x -> x.read(0, 8), Due.BEYOND);
    }

    private static void readOfNoNumbers() {
        for (int house = 0; house < 8; house += 7) {
            int asked = house;
            Edge.accepted("read of no numbers", () -> with(8), x -> x.read(0, asked), 6 * 21);
        }
    }

    /** Each tone at once tells how many pairs ring it in hour 0; together they are all there are. */
    private static void readOfAll() {
        int[] due = {3 + 9 + 12, 3 + 3 + 3 + 3, 3 + 3 + 3 + 3 + 3, 3 + 3 + 3 + 21 + 3 + 3, 3 + 3 + 3 + 3 + 3, 3 + 3 + 3,
            3 + 6 + 6};
        int all = 0;
        for (int t = 0; t < 7; t++) {
            int tone = t;
            Edge.accepted("read: tone " + tone, () -> with(8, -1, tone), x -> x.read(0, 0), due[tone]);
            all += due[tone];
        }
        Due.is("all pairs", all, 6 * 21);
        Edge.accepted("read: none yet", () -> with(8, -1), x -> x.read(0, 0), 6 * 21);
        Edge.accepted("read of another house", () -> with(8, -1, 3), x -> x.read(0, 7), 6 * 21);
        Edge.accepted("read of another house", () -> with(8, -1, 2), x -> x.read(0, 7), 0);
    }

    private static void readNeedsThemAll() {
        for (int wrong = 0; wrong < 40; wrong++) {
            MuffinBells x = Edge.furnished();
            x.sheet(3, 8, 40);
            x.book(3);
            int house = x.now(1);
            Due.is("read of a true book", x.read(3, house) > 0 ? 1 : 0, 1);
            x.write(3, wrong, 7);
            Due.is("read of a book with number " + wrong + " wrong", x.read(3, house), 0);
        }
    }

    private static void readOfNoTone() {
        long[] none = {-2, 7, 127, 255L << 8, (1L << 32) - 1, (1L << 32) + 3, Long.MIN_VALUE, Long.MAX_VALUE};
        for (long v : none) {
            Edge.accepted("read: " + v + " first", () -> with(64, v), x -> x.read(0, 0), 0);
            Edge.accepted("read: " + v + " then", () -> with(64, -1, v), x -> x.read(0, 0), 0);
        }
        Edge.accepted("read: 8 bits of 255", () -> with(8, 255), x -> x.read(0, 0), 6 * 21);
    }
}
