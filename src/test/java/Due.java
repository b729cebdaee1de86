import java.util.Random;

/** What the project's tests share: the comparing of answers, and terraces to ask. */
final class Due {
    static final int BEYOND = -1000000001;
    static final int FULL = -1000000002;
    static final int KIND = -1000000003;
    static final int NONE = -1000000004;
    static final int STATE = -1000000005;
    static final int MISSING = -1000000006;
    static final int SIZE = -1000000007;

    static final int HOUSE = 0;
    static final int GAY = 1;
    static final int GRAVE = 2;
    static final int CHOIR = 3;
    static final int WALTZ = 4;
    static final int LENT = 5;

    /** Numbers that are within nothing. */
    static final int[] FAR = {-1000000001, Integer.MIN_VALUE, Integer.MAX_VALUE, 1 << 20, -99};

    private static int asked = 0;
    private static int wrong = 0;

    private Due() {
    }

    static void is(String call, long got, long want) {
        asked++;
        if (got != want) {
            wrong++;
            System.out.println(call + " answered " + got + ", due is " + want);
        }
    }

    static void end() {
        System.out.println(asked + " answers asked, " + wrong + " not as due");
        if (wrong != 0 || asked == 0) {
            System.exit(1);
        }
    }

    static int feed(MuffinBells x, String text) {
        int has = x.count(1);
        for (int i = 0; i < text.length(); i++) {
            has = x.feed(text.charAt(i), 1);
        }
        return has;
    }

    static int terrace(MuffinBells x, String text) {
        feed(x, text);
        return x.terrace();
    }

    /** All that section 1 tells, and the tape's length, as a text to compare. */
    static String state(MuffinBells x) {
        StringBuilder all = new StringBuilder();
        for (int what = 0; what <= 6; what++) {
            all.append(x.now(what)).append(' ');
        }
        for (int house = 0; house < 8; house++) {
            for (int what = 0; what <= 3; what++) {
                all.append(x.of(house, what)).append(' ');
            }
        }
        return all.append(x.count(1)).toString();
    }

    static void same(String what, String got, String want) {
        is(what + " (" + got + " for " + want + ")", got.equals(want) ? 1 : 0, 1);
    }

    /** A terrace that the seed alone makes; it takes some forty calls of the object. */
    static MuffinBells mixed(int seed) {
        Random random = new Random(seed);
        MuffinBells x = new MuffinBells();
        for (int house = 0; house < 8; house++) {
            x.turn(house, random.nextInt(6));
            x.set(house, 1, random.nextInt(21));
            x.set(house, 2, random.nextInt(4) == 0 ? random.nextInt(6) : random.nextInt(120));
        }
        x.man(0, random.nextInt(8));
        x.man(1, random.nextInt(2));
        x.man(2, random.nextInt(3) == 0 ? random.nextInt(10) : random.nextInt(200));
        x.man(3, random.nextInt(8) - 1);
        x.man(4, random.nextInt(4) == 0 ? 35 + random.nextInt(20) : random.nextInt(100));
        if (random.nextBoolean()) {
            x.hours(1 + random.nextInt(30));
        }
        return x;
    }
}
