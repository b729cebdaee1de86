/** Promises 11 to 18. */
public final class HoursTest {
    private static final int TERRACES = 60;

    public static void main(String[] args) {
        firstHours();
        backwards();
        crackedBell();
        moodIsHeld();
        toneAfterMinding();
        waltzInItsHour();
        ateIsHeld();
        hoursByTheSmallActs();
        hoursWrong();
        onIsAsHours();
        onWrong();
        firstTimes();
        emptyAtTheEnd();
        firstTimesByOn();
        firstTimesWrong();
        Due.end();
    }

    private static void firstHours() {
        MuffinBells x = new MuffinBells();
        String rest = "0 10 30 0 ".repeat(4) + "0";
        Due.is("hours(1)", x.hours(1), 0);
        Due.same("hour 1", Due.state(x), "1 1 1 40 3 1 0 " + "0 10 30 0 ".repeat(8) + "0");
        Due.is("hours(1)", x.hours(1), 2);
        Due.same("hour 2", Due.state(x), "2 2 1 39 3 2 2 0 10 30 0 0 10 28 1 0 10 30 0 0 10 30 0 " + rest);
        Due.is("hours(2)", x.hours(2), 6);
        Due.same("hour 4", Due.state(x), "4 4 1 37 3 4 6 0 10 30 0 0 10 28 1 0 10 28 1 0 10 28 1 " + rest);
        Due.is("hours(1), a rest", x.hours(1), 6);
        Due.same("hour 5", Due.state(x), "5 4 1 37 3 4 6 0 10 30 0 0 10 28 1 0 10 28 1 0 10 28 1 " + rest);
        Due.is("hours(5)", x.hours(5), 14);
        Due.is("goes round", x.now(1), 0);
        Due.is("hours(1)", x.hours(1), 16);
        Due.is("house 0 has bought", x.of(0, 3), 1);
    }

    private static void backwards() {
        MuffinBells x = new MuffinBells();
        x.man(1, 0);
        int[] at = {7, 6, 5, 4, 4, 3, 2, 1, 0, 0, 7};
        for (int i = 0; i < at.length; i++) {
            x.hours(1);
            Due.is("backwards after " + (i + 1), x.now(1), at[i]);
        }
    }

    private static void crackedBell() {
        MuffinBells x = new MuffinBells();
        for (int house = 0; house < 8; house++) {
            x.set(house, 1, 20);
        }
        x.man(4, 49);
        x.hours(1);
        Due.is("RANG by CRACK 49", x.now(4), 6);
        Due.is("CRACK", x.now(5), 50);
        x.hours(1);
        Due.is("RANG by CRACK 50", x.now(4), 3);
        Due.is("CRACK", x.now(5), 51);
        x.man(4, 98);
        x.hours(1);
        Due.is("CRACK 98 and 1", x.now(5), 99);
        x.hours(1);
        Due.is("CRACK 99 at most", x.now(5), 99);
        x.hours(1);
        Due.is("RANG in a rest", x.now(4), 3);
    }

    private static void moodIsHeld() {
        MuffinBells x = new MuffinBells();
        x.turn(0, Due.WALTZ);
        x.set(0, 1, 19);
        x.man(3, 6);
        x.hours(1);
        Due.is("MOOD 20 at most", x.of(0, 1), 20);
        x.turn(1, Due.CHOIR);
        x.set(1, 1, 1);
        x.man(3, 5);
        x.hours(1);
        Due.is("MOOD 0 at least", x.of(1, 1), 0);
    }

    private static void toneAfterMinding() {
        MuffinBells x = new MuffinBells();
        x.set(0, 1, 11);
        x.man(3, 6);
        x.hours(1);
        Due.is("MOOD", x.of(0, 1), 12);
        Due.is("RANG by the MOOD as it is then", x.now(4), 4);
    }

    private static void waltzInItsHour() {
        MuffinBells x = new MuffinBells();
        x.turn(1, Due.WALTZ);
        x.hours(1);
        Due.is("a waltz minds in hour 1 with its tone 0", x.minds(1, 3), 102);
        x.hours(1);
        Due.is("MOOD", x.of(1, 1), 12);
        Due.is("RANG", x.now(4), 0);
        Due.is("ATE", x.of(1, 3), 2);
    }

    private static void ateIsHeld() {
        MuffinBells x = new MuffinBells();
        x.turn(0, Due.LENT);
        x.set(0, 3, 9996);
        x.man(3, 0);
        Due.is("hours(1)", x.hours(1), 12);
        Due.is("ATE held", x.of(0, 3), 9999);
        Due.is("TRAY", x.now(3), 34);
        Due.is("PENCE", x.of(0, 2), 18);
    }

    /** What an hour does must be what minds, buys and the tone say of it. */
    private static void hoursByTheSmallActs() {
        for (int seed = 0; seed < TERRACES; seed++) {
            MuffinBells x = Due.mixed(seed);
            for (int i = 0; i < 6; i++) {
                x.image();
                String want = stateAfterAnHour(x);
                x.undo();
                x.hours(1);
                Due.same("an hour of terrace " + seed, manAndHouse(x), want);
            }
        }
    }

    private static String stateAfterAnHour(MuffinBells x) {
        int at = x.now(1);
        int rang = x.now(4);
        int next = (at + (x.now(2) == 1 ? 1 : 7)) % 8;
        int muffins = 0;
        int takings = x.now(6);
        int crack = x.now(5);
        if (x.now(7) == 1) {
            next = at;
        } else {
            if (rang != -1) {
                muffins = x.buys(at, rang);
                int mood = x.of(at, 1) + x.minds(at, rang) - 100;
                x.set(at, 1, Math.max(0, Math.min(20, mood)));
            }
            rang = crack >= 50 ? 3 : x.of(at, 4);
            crack = Math.min(99, crack + 1);
        }
        x.set(at, 2, x.of(at, 2) - 2 * muffins);
        x.set(at, 3, x.of(at, 3) + muffins);
        x.man(2, x.now(3) - muffins);
        x.man(0, next);
        x.man(3, rang);
        x.man(4, crack);
        return told(x, x.now(0) + 1, takings + 2 * muffins);
    }

    private static String manAndHouse(MuffinBells x) {
        return told(x, x.now(0), x.now(6));
    }

    private static String told(MuffinBells x, int hour, int takings) {
        StringBuilder all = new StringBuilder();
        all.append(hour).append(' ').append(takings);
        for (int what = 1; what <= 5; what++) {
            all.append(' ').append(x.now(what));
        }
        for (int house = 0; house < 8; house++) {
            all.append(' ').append(x.of(house, 1)).append('/').append(x.of(house, 2)).append('/').append(x.of(house, 3));
        }
        return all.toString();
    }

    private static void hoursWrong() {
        MuffinBells x = new MuffinBells();
        String before = Due.state(x);
        Due.is("hours(0)", x.hours(0), Due.BEYOND);
        Due.is("hours(101)", x.hours(101), Due.BEYOND);
        Due.is("hours(-1)", x.hours(-1), Due.BEYOND);
        for (int far : Due.FAR) {
            Due.is("hours(" + far + ")", x.hours(far), Due.BEYOND);
        }
        Due.same("hours with a finding", Due.state(x), before);
        x.hours(100);
        Due.is("a hundred", x.now(0), 100);
    }

    private static void onIsAsHours() {
        int[] spans = {0, 1, 2, 5, 17, 60, 99, 100, 101, 199, 200};
        for (int seed = 0; seed < TERRACES; seed++) {
            for (int n : spans) {
                MuffinBells x = Due.mixed(seed);
                String before = Due.state(x);
                int[] on = new int[16];
                for (int house = 0; house < 8; house++) {
                    on[house] = x.on(house, n, 0);
                    on[8 + house] = x.on(house, n, 1);
                }
                int rang = x.rang(n);
                int takings = x.takings(n);
                int moods = x.moods(n);
                int saddest = x.saddest(n);
                Due.same("ON changes nothing", Due.state(x), before);
                go(x, n);
                int sum = 0;
                int least = 0;
                for (int house = 0; house < 8; house++) {
                    Due.is("on(" + house + ", " + n + ", 0)", on[house], x.of(house, 1));
                    Due.is("on(" + house + ", " + n + ", 1)", on[8 + house], x.of(house, 3));
                    sum += x.of(house, 1);
                    least = x.of(house, 1) < x.of(least, 1) ? house : least;
                }
                Due.is("rang(" + n + ")", rang, x.now(4));
                Due.is("takings(" + n + ")", takings, x.now(6));
                Due.is("moods(" + n + ")", moods, sum);
                Due.is("saddest(" + n + ")", saddest, least);
            }
        }
    }

    private static void go(MuffinBells x, int n) {
        if (n > 100) {
            x.hours(100);
            x.hours(n - 100);
        } else if (n > 0) {
            x.hours(n);
        }
    }

    private static void onWrong() {
        MuffinBells x = new MuffinBells();
        Due.is("rang(0): none", x.rang(0), -1);
        int[] wrong = {-1, 201, Integer.MIN_VALUE, Integer.MAX_VALUE};
        for (int n : wrong) {
            Due.is("on(0, " + n + ", 0)", x.on(0, n, 0), Due.BEYOND);
            Due.is("rang(" + n + ")", x.rang(n), Due.BEYOND);
            Due.is("takings(" + n + ")", x.takings(n), Due.BEYOND);
            Due.is("moods(" + n + ")", x.moods(n), Due.BEYOND);
        }
        Due.is("on(8, 0, 0)", x.on(8, 0, 0), Due.BEYOND);
        Due.is("on(-1, 0, 0)", x.on(-1, 0, 0), Due.BEYOND);
        Due.is("on(0, 0, 2)", x.on(0, 0, 2), Due.BEYOND);
        Due.is("on(0, 0, -1)", x.on(0, 0, -1), Due.BEYOND);
    }

    private static void firstTimes() {
        MuffinBells x = new MuffinBells();
        int[] comes = {0, 1, 2, 3, 4, 6, 7, 8};
        for (int house = 0; house < 8; house++) {
            Due.is("comes(" + house + ")", x.comes(house), comes[house]);
        }
        Due.is("when(3)", x.when(3), 1);
        Due.is("when(6): never", x.when(6), Due.NONE);
        Due.is("empty()", x.empty(), 51);
        x.man(2, 1);
        Due.is("empty() of one", x.empty(), 2);
        x.man(2, 0);
        Due.is("empty() of none", x.empty(), 0);
        x.man(2, 999);
        Due.is("empty(): never", x.empty(), Due.NONE);
        x.man(3, 5);
        Due.is("when(5) now", x.when(5), 0);
        Due.is("findings NONE", x.status(3), 2);
    }

    /** From hour 1 on, 200 hours have 160 in which he doesn't rest, and a plain house buys one in each. */
    private static void emptyAtTheEnd() {
        MuffinBells x = new MuffinBells();
        for (int house = 0; house < 8; house++) {
            x.set(house, 2, 999);
        }
        x.hours(1);
        x.man(2, 160);
        Due.is("empty() at the end", x.empty(), 200);
        x.man(2, 161);
        Due.is("empty() behind the end", x.empty(), Due.NONE);
    }

    private static void firstTimesByOn() {
        for (int seed = 0; seed < TERRACES; seed++) {
            MuffinBells x = Due.mixed(seed);
            int[] when = new int[7];
            for (int tone = 0; tone < 7; tone++) {
                when[tone] = x.when(tone);
            }
            int empty = x.empty();
            int[] first = {Due.NONE, Due.NONE, Due.NONE, Due.NONE, Due.NONE, Due.NONE, Due.NONE};
            int firstEmpty = Due.NONE;
            for (int n = 200; n >= 0; n--) {
                MuffinBells y = Due.mixed(seed);
                go(y, n);
                if (y.now(4) >= 0) {
                    first[y.now(4)] = n;
                }
                firstEmpty = y.now(3) == 0 ? n : firstEmpty;
            }
            Due.is("empty() of terrace " + seed, empty, firstEmpty);
            for (int tone = 0; tone < 7; tone++) {
                Due.is("when(" + tone + ") of terrace " + seed, when[tone], first[tone]);
            }
        }
    }

    private static void firstTimesWrong() {
        MuffinBells x = new MuffinBells();
        Due.is("comes(-1)", x.comes(-1), Due.BEYOND);
        Due.is("comes(8)", x.comes(8), Due.BEYOND);
        Due.is("when(-1)", x.when(-1), Due.BEYOND);
        Due.is("when(7)", x.when(7), Due.BEYOND);
        Due.is("status(0)", x.status(0), 4);
        Due.is("status(-1)", x.status(-1), 4);
    }
}
