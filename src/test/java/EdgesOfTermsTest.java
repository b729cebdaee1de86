/** The edges that the document's "Terms" name: findings, what is held, what is cut, what goes round. */
public final class EdgesOfTermsTest {
    public static void main(String[] args) {
        findingsAreTheseNumbers();
        findingsInLongs();
        housesGoRound();
        atFirst();
        thirdsAreCut();
        gayToneAtMost();
        graveToneAtLeast();
        waltzHours();
        lentMood();
        mindsAboveAndBelow();
        mindsAboveThree();
        mindsOdd();
        mindsOfLent();
        buysAboveFour();
        buysBelowTwo();
        buysOdd();
        noMoreThanItCanPay();
        noMoreThanThereAre();
        restChangesTheHourAlone();
        nothingRangYet();
        moodHeldAbove();
        moodHeldBelow();
        ateHeld();
        crackedAtFifty();
        crackAtMost();
        toneByTheMoodThen();
        takingsHeld();
        lastHour();
        Due.end();
    }

    private static MuffinBells oneHouse(int kind, int mood, int rang) {
        MuffinBells x = new MuffinBells();
        x.turn(0, kind);
        x.set(0, 1, mood);
        x.man(3, rang);
        return x;
    }

    private static MuffinBells inHour(int hour) {
        MuffinBells x = new MuffinBells();
        if (hour > 0) {
            x.hours(hour);
        }
        return x;
    }

    private static void findingsAreTheseNumbers() {
        MuffinBells x = new MuffinBells();
        Due.is("BEYOND", x.now(8), -1000000001);
        for (int i = 0; i < 30; i++) {
            x.feed(0, 4);
        }
        Due.is("FULL", x.feed(0, 1), -1000000002);
        Due.is("KIND", x.as(0, 1), -1000000003);
        Due.is("NONE", x.undo(), -1000000004);
        Due.is("MISSING", x.lays(0), -1000000006);
        Due.is("SIZE", x.sheet(0, 8, -1), -1000000007);
    }

    private static void findingsInLongs() {
        MuffinBells x = new MuffinBells();
        Due.is("BEYOND of write", x.write(4, 0, 0L), -1000000001L);
        Due.is("MISSING of write", x.write(3, 0, 0L), -1000000006L);
    }

    private static void housesGoRound() {
        int[][] steps = {{0, 1, 1}, {6, 1, 7}, {7, 1, 0}, {7, 0, 6}, {1, 0, 0}, {0, 0, 7}};
        for (int[] step : steps) {
            MuffinBells x = new MuffinBells();
            x.man(0, step[0]);
            x.man(1, step[1]);
            x.hours(1);
            Due.is("from house " + step[0] + " by way " + step[1], x.now(1), step[2]);
        }
    }

    private static void atFirst() {
        MuffinBells x = new MuffinBells();
        int[] man = {0, 0, 1, 40, -1, 0, 0, 0};
        for (int what = 0; what < man.length; what++) {
            Due.is("now(" + what + ") at first", x.now(what), man[what]);
        }
        int[] house = {0, 10, 30, 0, 3};
        for (int what = 0; what < house.length; what++) {
            Due.is("of(0, " + what + ") at first", x.of(0, what), house[what]);
            Due.is("of(7, " + what + ") at first", x.of(7, what), house[what]);
        }
    }

    private static void thirdsAreCut() {
        int[][] tones = {{0, 0}, {2, 0}, {3, 1}, {5, 1}, {6, 2}, {17, 5}, {18, 6}, {20, 6}};
        for (int[] t : tones) {
            Due.is("tone of a house of mood " + t[0], oneHouse(Due.HOUSE, t[0], -1).of(0, 4), t[1]);
        }
    }

    private static void gayToneAtMost() {
        int[][] tones = {{0, 1}, {14, 5}, {15, 6}, {17, 6}, {18, 6}, {20, 6}};
        for (int[] t : tones) {
            Due.is("tone of a gay house of mood " + t[0], oneHouse(Due.GAY, t[0], -1).of(0, 4), t[1]);
            Due.is("tone of a waltz of mood " + t[0], oneHouse(Due.WALTZ, t[0], -1).of(0, 4), t[1]);
        }
    }

    private static void graveToneAtLeast() {
        int[][] tones = {{0, 0}, {3, 0}, {5, 0}, {6, 0}, {8, 0}, {9, 1}, {20, 4}};
        for (int[] t : tones) {
            Due.is("tone of a grave house of mood " + t[0], oneHouse(Due.GRAVE, t[0], -1).of(0, 4), t[1]);
        }
    }

    private static void waltzHours() {
        int[] tones = {4, 0, 4, 4, 0, 4, 4, 0, 4, 4, 0};
        for (int hour = 0; hour < tones.length; hour++) {
            MuffinBells x = inHour(hour);
            x.turn(7, Due.WALTZ);
            x.set(7, 1, 10);
            Due.is("tone of a waltz in hour " + hour, x.of(7, 4), tones[hour]);
            x.turn(7, Due.GAY);
            Due.is("tone of a gay house in hour " + hour, x.of(7, 4), 4);
        }
    }

    private static void lentMood() {
        int[][] tones = {{0, 0}, {9, 0}, {11, 0}, {12, 2}, {20, 4}};
        for (int[] t : tones) {
            Due.is("tone in Lent of mood " + t[0], oneHouse(Due.LENT, t[0], -1).of(0, 4), t[1]);
        }
    }

    private static void mindsAboveAndBelow() {
        MuffinBells x = oneHouse(Due.HOUSE, 10, -1);
        Due.is("one below its own", x.minds(0, 2), 99);
        Due.is("its own", x.minds(0, 3), 100);
        Due.is("one above its own", x.minds(0, 4), 101);
    }

    private static void mindsAboveThree() {
        MuffinBells x = oneHouse(Due.GAY, 0, -1);
        Due.is("gay, tone 3", x.minds(0, 3), 101);
        Due.is("gay, tone 4", x.minds(0, 4), 102);
        x.turn(0, Due.WALTZ);
        Due.is("waltz, tone 3", x.minds(0, 3), 102);
        Due.is("waltz, tone 4", x.minds(0, 4), 104);
        x.set(0, 1, 20);
        Due.is("waltz, below its own", x.minds(0, 0), 98);
    }

    private static void mindsOdd() {
        MuffinBells x = oneHouse(Due.CHOIR, 10, -1);
        int[] want = {101, 98, 101, 98, 101, 98, 101};
        for (int tone = 0; tone < 7; tone++) {
            Due.is("choir, tone " + tone, x.minds(0, tone), want[tone]);
        }
    }

    private static void mindsOfLent() {
        MuffinBells x = oneHouse(Due.LENT, 10, -1);
        Due.is("lent, tone 0", x.minds(0, 0), 100);
        Due.is("lent, tone 1", x.minds(0, 1), 99);
        x.turn(0, Due.GRAVE);
        Due.is("grave, tone 0", x.minds(0, 0), 99);
        Due.is("grave, tone 6", x.minds(0, 6), 99);
    }

    private static void buysAboveFour() {
        MuffinBells x = oneHouse(Due.GAY, 10, -1);
        Due.is("gay, tone 4", x.buys(0, 4), 1);
        Due.is("gay, tone 5", x.buys(0, 5), 2);
        x.turn(0, Due.WALTZ);
        Due.is("waltz, tone 4", x.buys(0, 4), 2);
        Due.is("waltz, tone 5", x.buys(0, 5), 3);
    }

    private static void buysBelowTwo() {
        MuffinBells x = oneHouse(Due.GRAVE, 10, -1);
        Due.is("grave, tone 1", x.buys(0, 1), 3);
        Due.is("grave, tone 2", x.buys(0, 2), 1);
        x.turn(0, Due.LENT);
        Due.is("lent, tone 1", x.buys(0, 1), 6);
        Due.is("lent, tone 2", x.buys(0, 2), 2);
    }

    private static void buysOdd() {
        MuffinBells x = oneHouse(Due.CHOIR, 10, -1);
        for (int tone = 0; tone < 7; tone++) {
            Due.is("choir, tone " + tone, x.buys(0, tone), (tone + 1) % 2);
        }
    }

    private static void noMoreThanItCanPay() {
        int[][] cases = {{0, 0}, {1, 0}, {2, 1}, {3, 1}, {11, 5}, {12, 6}, {13, 6}};
        for (int[] c : cases) {
            MuffinBells x = oneHouse(Due.LENT, 10, 0);
            x.set(0, 2, c[0]);
            Due.is("buys with pence " + c[0], x.buys(0, 0), c[1]);
            Due.is("an hour with pence " + c[0], x.hours(1), 2 * c[1]);
            Due.is("PENCE then", x.of(0, 2), c[0] - 2 * c[1]);
            Due.is("ATE then", x.of(0, 3), c[1]);
            Due.is("TRAY then", x.now(3), 40 - c[1]);
        }
    }

    private static void noMoreThanThereAre() {
        int[][] cases = {{0, 0}, {1, 1}, {5, 5}, {6, 6}, {7, 6}};
        for (int[] c : cases) {
            MuffinBells x = oneHouse(Due.LENT, 10, 0);
            x.man(2, c[0]);
            Due.is("buys with tray " + c[0], x.buys(0, 0), c[1]);
            Due.is("an hour with tray " + c[0], x.hours(1), 2 * c[1]);
            Due.is("TRAY then", x.now(3), c[0] - c[1]);
            Due.is("ATE then", x.of(0, 3), c[1]);
        }
    }

    private static void restChangesTheHourAlone() {
        for (int hour = 0; hour < 12; hour++) {
            MuffinBells x = inHour(hour);
            boolean rests = hour == 4 || hour == 9;
            x.turn(x.now(1), Due.LENT);
            x.man(3, 1);
            Due.is("he rests in hour " + hour, x.now(7), rests ? 1 : 0);
            String before = Due.state(x);
            x.hours(1);
            Due.is("HOUR", x.now(0), hour + 1);
            String same = (hour + 1) + before.substring(before.indexOf(' '));
            Due.is("hour " + hour + " changes nothing else", Due.state(x).equals(same) ? 1 : 0, rests ? 1 : 0);
        }
    }

    private static void nothingRangYet() {
        MuffinBells x = oneHouse(Due.LENT, 12, -1);
        Due.is("an hour in which nothing is heard", x.hours(1), 0);
        Due.same("he hears, cracks and goes on", Due.state(x), "1 1 1 40 2 1 0 5 12 30 0 " + "0 10 30 0 ".repeat(7) + "0");
        MuffinBells y = oneHouse(Due.LENT, 12, 0);
        Due.is("an hour in which tone 0 is heard", y.hours(1), 12);
    }

    private static void moodHeldAbove() {
        int[][] cases = {{Due.WALTZ, 17, 19}, {Due.WALTZ, 18, 20}, {Due.WALTZ, 19, 20}, {Due.WALTZ, 20, 20},
            {Due.GAY, 19, 20}, {Due.GAY, 20, 20}, {Due.CHOIR, 19, 20}, {Due.CHOIR, 20, 20}};
        for (int[] c : cases) {
            MuffinBells x = oneHouse(c[0], c[1], 6);
            x.hours(1);
            Due.is("kind " + c[0] + " of mood " + c[1] + " hearing 6", x.of(0, 1), c[2]);
        }
    }

    private static void moodHeldBelow() {
        int[][] cases = {{Due.CHOIR, 3, 1}, {Due.CHOIR, 2, 0}, {Due.CHOIR, 1, 0}, {Due.CHOIR, 0, 0},
            {Due.GRAVE, 1, 0}, {Due.GRAVE, 0, 0}};
        for (int[] c : cases) {
            MuffinBells x = oneHouse(c[0], c[1], 5);
            x.hours(1);
            Due.is("kind " + c[0] + " of mood " + c[1] + " hearing 5", x.of(0, 1), c[2]);
        }
    }

    private static void ateHeld() {
        int[][] cases = {{9992, 9998}, {9993, 9999}, {9994, 9999}, {9999, 9999}};
        for (int[] c : cases) {
            MuffinBells x = oneHouse(Due.LENT, 10, 0);
            x.set(0, 3, c[0]);
            Due.is("TAKINGS all the same", x.hours(1), 12);
            Due.is("ATE " + c[0] + " and 6", x.of(0, 3), c[1]);
            Due.is("PENCE all the same", x.of(0, 2), 18);
            Due.is("TRAY all the same", x.now(3), 34);
        }
    }

    private static void crackedAtFifty() {
        int[][] cases = {{0, 6}, {49, 6}, {50, 3}, {51, 3}, {99, 3}};
        for (int[] c : cases) {
            MuffinBells x = oneHouse(Due.HOUSE, 20, -1);
            x.man(4, c[0]);
            x.hours(1);
            Due.is("RANG by CRACK " + c[0], x.now(4), c[1]);
        }
    }

    private static void crackAtMost() {
        int[][] cases = {{0, 1}, {97, 98}, {98, 99}, {99, 99}};
        for (int[] c : cases) {
            MuffinBells x = new MuffinBells();
            x.man(4, c[0]);
            x.hours(1);
            Due.is("CRACK " + c[0] + " and 1", x.now(5), c[1]);
        }
    }

    private static void toneByTheMoodThen() {
        MuffinBells x = oneHouse(Due.HOUSE, 11, 4);
        x.hours(1);
        Due.is("RANG by the MOOD that is 1 more", x.now(4), 4);
        MuffinBells y = oneHouse(Due.LENT, 12, 1);
        y.hours(1);
        Due.is("RANG by the MOOD that is 1 less", y.now(4), 0);
    }

    /**
     * Lent in all houses buys six an hour, and sixty-two hours have fifty at most that aren't rests, which is what a
     * bell bears: so the purse is full within the 512 calls for which an object is used.
     */
    private static void takingsHeld() {
        MuffinBells x = new MuffinBells();
        int calls = 1;
        for (int house = 0; house < 8; house++) {
            x.turn(house, Due.LENT);
        }
        x.man(3, 0);
        calls += 8;
        int hour = 0;
        for (int round = 0; round < 169; round++) {
            for (int house = 0; house < 8 && round % 13 == 0; house++) {
                x.set(house, 2, 999);
                calls++;
            }
            if (round % 3 == 0) {
                x.man(2, 999);
                calls++;
            }
            x.man(4, 0);
            hour += 62;
            int sold = 12 * (hour - hour / 5);
            Due.is("TAKINGS in hour " + hour, x.hours(62), Math.min(99999, sold));
            calls += 2;
        }
        Due.is("TRAY less by 300 all the same", x.now(3), 699);
        Due.is("takings(60) held", x.takings(60), 99999);
        Due.is("bears(60, 99999) of a full purse", x.bears(60, 99999), 99);
        Due.is("within 512 calls", calls + 3 <= 512 ? 1 : 0, 1);
    }

    /** No 512 calls come so far; what the class does behind them is free, and is the same. */
    private static void lastHour() {
        MuffinBells x = new MuffinBells();
        for (int i = 0; i < 999; i++) {
            x.hours(100);
        }
        Due.is("hours(100) from 99900 on", x.hours(100), Due.STATE);
        Due.is("hours(101), asked first", x.hours(101), Due.BEYOND);
        Due.is("HOUR", x.now(0), 99900);
        x.hours(99);
        Due.is("the last HOUR", x.now(0), 99999);
        Due.is("hours(1) from the last HOUR on", x.hours(1), Due.STATE);
        Due.is("findings STATE", x.status(4), 2);
    }
}
