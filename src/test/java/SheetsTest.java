/** Promises 30 to 35. */
public final class SheetsTest {
    private static final int TERRACES = 30;

    public static void main(String[] args) {
        sheet();
        sheetWrong();
        write();
        writeByBits();
        writeWrong();
        copy();
        copyWrong();
        lays();
        laysWrong();
        book();
        bookOfNone();
        read();
        readByBook();
        readWrong();
        Due.end();
    }

    private static void sheet() {
        MuffinBells x = new MuffinBells();
        int[] bits = {8, 16, 64};
        for (int s = 0; s < 4; s++) {
            for (int b : bits) {
                Due.is("sheet(" + s + ", " + b + ", 40)", x.sheet(s, b, 40), 40);
                x.write(s, 39, 5);
                x.write(s, 0, 6);
                Due.is("sheet again", x.sheet(s, b, 40), 40);
                Due.is("all 0", x.write(s, 39, 0), 0);
                Due.is("all 0", x.write(s, 0, 0), 0);
                Due.is("sheet of none", x.sheet(s, b, 0), 0);
                Due.is("it is not MISSING", x.book(s), 0);
            }
            Due.is("sheet(" + s + ", 0, 7)", x.sheet(s, 0, 7), 0);
            Due.is("it is MISSING", x.book(s), Due.MISSING);
        }
        x.sheet(1, 8, 3);
        x.write(1, 2, 9);
        Due.is("longer", x.sheet(1, 8, 5), 5);
        Due.is("nothing left of it", x.write(1, 2, 0), 0);
        Due.is("another sheet is another one", x.book(2), Due.MISSING);
    }

    private static void sheetWrong() {
        MuffinBells x = new MuffinBells();
        x.sheet(0, 8, 3);
        x.write(0, 1, 7);
        int[] others = {-1, 4, Integer.MIN_VALUE, Integer.MAX_VALUE};
        for (int s : others) {
            Due.is("sheet(" + s + ", 8, -1)", x.sheet(s, 8, -1), Due.BEYOND);
        }
        int[] otherBits = {-8, 1, 7, 9, 32, 63, 128};
        for (int bits : otherBits) {
            Due.is("sheet(0, " + bits + ", -1)", x.sheet(0, bits, -1), Due.BEYOND);
        }
        Due.is("sheet(0, 8, -1)", x.sheet(0, 8, -1), Due.SIZE);
        Due.is("sheet(0, 0, -1)", x.sheet(0, 0, -1), Due.SIZE);
        Due.is("sheet(0, 64, lowest)", x.sheet(0, 64, Integer.MIN_VALUE), Due.SIZE);
        Due.is("sheet(0, 8, 41)", x.sheet(0, 8, 41), Due.BEYOND);
        Due.is("sheet(0, 0, 41)", x.sheet(0, 0, 41), Due.BEYOND);
        Due.is("sheet(0, 0, 40)", x.sheet(1, 0, 40), 0);
        Due.is("findings SIZE", x.status(6), 3);
        Due.is("it is as it was", x.write(0, 1, 0), 7);
        Due.is("its length too", x.book(0), 3);
    }

    private static void write() {
        MuffinBells x = new MuffinBells();
        x.sheet(2, 64, 40);
        for (int i = 0; i < 40; i++) {
            Due.is("write", x.write(2, i, 1000L * i - 7), 0);
        }
        for (int i = 0; i < 40; i++) {
            Due.is("write again", x.write(2, i, 0), 1000L * i - 7);
        }
    }

    private static void writeByBits() {
        MuffinBells x = new MuffinBells();
        long[] values = {127, 128, 255, 256, -1, -128, -129, 32767, 32768, 65535, 65536, Long.MAX_VALUE, Long.MIN_VALUE};
        for (long v : values) {
            x.sheet(0, 8, 1);
            x.write(0, 0, v);
            Due.is("8 bits of " + v, x.write(0, 0, 0), (byte) v);
            x.sheet(0, 16, 1);
            x.write(0, 0, v);
            Due.is("16 bits of " + v, x.write(0, 0, 0), (short) v);
            x.sheet(0, 64, 1);
            x.write(0, 0, v);
            Due.is("64 bits of " + v, x.write(0, 0, 0), v);
        }
        x.sheet(0, 64, 1);
        x.write(0, 0, Due.BEYOND);
        Due.is("a number that looks like a finding", x.write(0, 0, 0), Due.BEYOND);
        Due.is("is none", x.status(-1), 0);
    }

    private static void writeWrong() {
        MuffinBells x = new MuffinBells();
        Due.is("write(4, 0, 0)", x.write(4, 0, 0), Due.BEYOND);
        Due.is("write(-1, 0, 0)", x.write(-1, 0, 0), Due.BEYOND);
        Due.is("write(0, -1, 0)", x.write(0, -1, 0), Due.MISSING);
        x.sheet(0, 16, 2);
        Due.is("write(0, 2, 0)", x.write(0, 2, 0), Due.BEYOND);
        Due.is("write(0, -1, 0)", x.write(0, -1, 0), Due.BEYOND);
        x.sheet(0, 16, 0);
        Due.is("write(0, 0, 0)", x.write(0, 0, 0), Due.BEYOND);
        x.sheet(0, 0, 0);
        Due.is("write to what was taken away", x.write(0, 0, 0), Due.MISSING);
        Due.is("findings BEYOND", x.status(0), 5);
        Due.is("findings MISSING", x.status(5), 2);
    }

    private static void copy() {
        MuffinBells x = new MuffinBells();
        x.sheet(0, 16, 6);
        x.sheet(3, 16, 4);
        for (int i = 0; i < 6; i++) {
            x.write(0, i, i + 1);
        }
        Due.is("copy(0, 2, 3, 0, 4)", x.copy(0, 2, 3, 0, 4), 4);
        row(x, 3, 3, 4, 5, 6);
        Due.is("copy(0, 0, 3, 3, 1)", x.copy(0, 0, 3, 3, 1), 1);
        Due.is("of none at the ends", x.copy(0, 6, 3, 4, 0), 0);
        row(x, 3, 3, 4, 5, 1);
        Due.is("forward on itself", x.copy(0, 0, 0, 1, 5), 5);
        row(x, 0, 1, 1, 2, 3, 4, 5);
        Due.is("backward on itself", x.copy(0, 2, 0, 0, 4), 4);
        row(x, 0, 2, 3, 4, 5, 4, 5);
    }

    private static void row(MuffinBells x, int s, int... want) {
        for (int i = 0; i < want.length; i++) {
            long got = x.write(s, i, 0);
            x.write(s, i, got);
            Due.is("number " + i + " of sheet " + s, got, want[i]);
        }
    }

    private static void copyWrong() {
        MuffinBells x = new MuffinBells();
        Due.is("no such sheet", x.copy(4, 0, 0, 0, -1), Due.BEYOND);
        Due.is("no such sheet", x.copy(0, 0, -1, 0, -1), Due.BEYOND);
        x.sheet(0, 8, 3);
        Due.is("one MISSING", x.copy(0, 0, 1, 0, -1), Due.MISSING);
        Due.is("one MISSING", x.copy(1, 0, 0, 0, -1), Due.MISSING);
        x.sheet(1, 16, 5);
        Due.is("not as many bits", x.copy(0, 0, 1, 0, -1), Due.KIND);
        x.sheet(1, 8, 5);
        int far = Integer.MAX_VALUE;
        int[][] wrong = {{0, 0, -1}, {-1, 0, 1}, {0, -1, 1}, {0, 0, 4}, {1, 0, 3}, {0, 3, 3}, {4, 0, 0}, {0, 6, 0},
            {far, 0, far}, {0, far, 1}, {far, far, 2}, {far, 0, 1}, {0, 0, far}, {1, 1, far}, {0, 0, -far - 1},
            {-far - 1, 0, 1}};
        for (int[] w : wrong) {
            Due.is("copy(0, " + w[0] + ", 1, " + w[1] + ", " + w[2] + ")", x.copy(0, w[0], 1, w[1], w[2]), Due.BEYOND);
        }
        Due.is("all of it", x.copy(0, 0, 1, 2, 3), 3);
        Due.is("findings BEYOND", x.status(0), wrong.length + 2);
        Due.is("findings KIND", x.status(2), 1);
        Due.is("findings MISSING", x.status(5), 2);
    }

    private static void lays() {
        MuffinBells x = new MuffinBells();
        x.sheet(0, 64, 40);
        long[] numbers = {0, 20, 21, -1, 5, (1L << 32) + 4, Long.MIN_VALUE, 7, 3, 3};
        for (int i = 0; i < numbers.length; i++) {
            x.write(0, i, numbers[i]);
        }
        Due.is("lays(0)", x.lays(0), 4);
        Due.same("lays", moods(x), "0 20 10 10 5 10 10 7 ");
        x.sheet(0, 8, 2);
        x.write(0, 0, 9);
        x.write(0, 1, 255);
        Due.is("lays(0) of two", x.lays(0), 1);
        Due.same("lays", moods(x), "9 20 10 10 5 10 10 7 ");
        x.sheet(0, 8, 0);
        Due.is("lays(0) of none", x.lays(0), 0);
    }

    private static String moods(MuffinBells x) {
        StringBuilder all = new StringBuilder();
        for (int house = 0; house < 8; house++) {
            all.append(x.of(house, 1)).append(' ');
        }
        return all.toString();
    }

    private static void laysWrong() {
        MuffinBells x = new MuffinBells();
        Due.is("lays(-1)", x.lays(-1), Due.BEYOND);
        Due.is("lays(4)", x.lays(4), Due.BEYOND);
        Due.is("lays(3)", x.lays(3), Due.MISSING);
        Due.is("book(-1)", x.book(-1), Due.BEYOND);
        Due.is("book(4)", x.book(4), Due.BEYOND);
        Due.is("book(3)", x.book(3), Due.MISSING);
        Due.is("status(-1)", x.status(-1), 6);
    }

    private static void book() {
        for (int seed = 0; seed < TERRACES; seed++) {
            MuffinBells x = Due.mixed(seed);
            x.sheet(1, seed % 2 == 0 ? 8 : 16, 40);
            String before = Due.state(x);
            Due.is("book(1)", x.book(1), 40);
            Due.same("book changes no terrace", Due.state(x), before);
            for (int i = 0; i < 40; i++) {
                Due.is("number " + i + " of the book", x.write(1, i, 0), x.rang(i));
            }
        }
    }

    private static void bookOfNone() {
        int[] bits = {8, 16, 64};
        for (int b : bits) {
            MuffinBells x = new MuffinBells();
            x.sheet(0, b, 2);
            Due.is("book(0)", x.book(0), 2);
            Due.is("RANG in the book: none", x.write(0, 0, -1), -1);
            Due.is("RANG in the book", x.write(0, 1, 3), 3);
            Due.is("all could be, but those at the first house of another tone", x.read(0, 0), 21 + 3 * 5);
        }
    }

    private static void read() {
        MuffinBells x = new MuffinBells();
        x.sheet(0, 8, 1);
        x.write(0, 0, -1);
        Due.is("read: nothing rang yet", x.read(0, 0), 126);
        x.write(0, 0, 3);
        Due.is("read: nothing can be so", x.read(0, 0), 0);
        x.sheet(0, 8, 2);
        x.write(0, 0, -1);
        x.write(0, 1, 0);
        // Tone 0 in hour 0: house moods 0 to 2, gay none, grave 0 to 8, choir none, waltz none, lent 0 to 11.
        Due.is("read: tone 0", x.read(0, 0), 3 + 9 + 12);
        Due.is("read of a house where he isn't", x.read(0, 5), 0);
        x.write(0, 1, 6);
        // Tone 6: house moods 18 to 20, gay and waltz 15 to 20.
        Due.is("read: tone 6", x.read(0, 0), 3 + 6 + 6);
        x.write(0, 1, 7);
        Due.is("read: no tone", x.read(0, 0), 0);
        x.sheet(0, 64, 1);
        x.write(0, 0, (1L << 32) - 1);
        Due.is("read: a number that is no tone", x.read(0, 0), 0);
    }

    private static void readByBook() {
        for (int seed = 0; seed < TERRACES; seed++) {
            int house = seed % 8;
            int length = 1 + seed * 7 % 40;
            int[] rang = new int[length];
            MuffinBells x = Due.mixed(seed);
            for (int i = 0; i < length; i++) {
                rang[i] = x.rang(i);
            }
            x.sheet(2, 64, length);
            x.book(2);
            String before = Due.state(x);
            int got = x.read(2, house);
            Due.same("read changes nothing", Due.state(x), before);
            Due.is("read(2, " + house + ") of terrace " + seed, got, pairs(seed, house, rang));
        }
    }

    private static int pairs(int seed, int house, int[] rang) {
        int pairs = 0;
        for (int kind = 0; kind < 6; kind++) {
            for (int mood = 0; mood <= 20; mood++) {
                MuffinBells x = Due.mixed(seed);
                x.turn(house, kind);
                x.set(house, 1, mood);
                boolean isSo = true;
                for (int i = 0; i < rang.length; i++) {
                    isSo &= x.rang(i) == rang[i];
                }
                pairs += isSo ? 1 : 0;
            }
        }
        return pairs;
    }

    private static void readWrong() {
        MuffinBells x = new MuffinBells();
        Due.is("read(-1, 9)", x.read(-1, 9), Due.BEYOND);
        Due.is("read(4, 9)", x.read(4, 9), Due.BEYOND);
        Due.is("read(0, 9)", x.read(0, 9), Due.MISSING);
        x.sheet(0, 8, 0);
        Due.is("read(0, 8)", x.read(0, 8), Due.BEYOND);
        Due.is("read(0, -1)", x.read(0, -1), Due.BEYOND);
        Due.is("read(0, 7)", x.read(0, 7), 126);
        Due.is("findings MISSING", x.status(5), 1);
        Due.is("findings BEYOND", x.status(0), 4);
    }
}
