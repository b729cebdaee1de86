/** The edges that promises 11 to 18 name. */
public final class EdgesOfHoursTest {
    public static void main(String[] args) {
        hoursWithin();
        hoursGoAsMany();
        onWithin();
        rangWithin();
        takingsWithin();
        moodsWithin();
        onNoHours();
        onMostHours();
        onChangesNothing();
        emptyNow();
        emptyInTheLastHour();
        emptyNever();
        comesWithin();
        comesNow();
        comesLatest();
        whenWithin();
        whenNow();
        whenLatest();
        whenNever();
        whenIsAskedBeyondFirst();
        Due.end();
    }

    private static void hoursWithin() {
        Edge.within("hours(n)", (x, n) -> x.hours(n), 1, 100);
    }

    private static void hoursGoAsMany() {
        int[] spans = {1, 2, 99, 100};
        for (int n : spans) {
            MuffinBells x = Edge.furnished();
            MuffinBells one = Edge.furnished();
            int hour = x.now(0);
            int takings = x.hours(n);
            for (int i = 0; i < n; i++) {
                one.hours(1);
            }
            Due.is("HOUR after " + n, x.now(0), hour + n);
            Due.is("hours(" + n + ") tells TAKINGS then", takings, one.now(6));
            Due.same("hours(" + n + ") one by one", Due.state(x), Due.state(one));
        }
    }

    private static void onWithin() {
        Edge.within("on(house, 1, 0)", (x, house) -> x.on(house, 1, 0), 0, 7);
        Edge.within("on(7, n, 0)", (x, n) -> x.on(7, n, 0), 0, 200);
        Edge.within("on(7, n, 1)", (x, n) -> x.on(7, n, 1), 0, 200);
        Edge.within("on(7, 1, what)", (x, what) -> x.on(7, 1, what), 0, 1);
    }

    private static void rangWithin() {
        Edge.within("rang(n)", (x, n) -> x.rang(n), 0, 200);
    }

    private static void takingsWithin() {
        Edge.within("takings(n)", (x, n) -> x.takings(n), 0, 200);
    }

    private static void moodsWithin() {
        Edge.within("moods(n)", (x, n) -> x.moods(n), 0, 200);
    }

    private static void onNoHours() {
        MuffinBells x = Edge.furnished();
        int moods = 0;
        for (int house = 0; house < 8; house++) {
            Due.is("on(" + house + ", 0, 0)", x.on(house, 0, 0), x.of(house, 1));
            Due.is("on(" + house + ", 0, 1)", x.on(house, 0, 1), x.of(house, 3));
            moods += x.of(house, 1);
        }
        Due.is("rang(0)", x.rang(0), x.now(4));
        Due.is("takings(0)", x.takings(0), x.now(6));
        Due.is("moods(0)", x.moods(0), moods);
        x.man(3, -1);
        Due.is("rang(0): none", x.rang(0), -1);
    }

    /** Each question is the first that its object is asked, so that none can live on what another has found out. */
    private static void onMostHours() {
        int[] spans = {1, 199, 200};
        for (int n : spans) {
            MuffinBells then = Edge.inLent();
            then.hours(n > 100 ? 100 : n);
            if (n > 100) {
                then.hours(n - 100);
            }
            for (int h = 0; h < 8; h++) {
                int house = h;
                Edge.accepted("on(" + h + ", " + n + ", 0)", Edge::inLent, x -> x.on(house, n, 0), then.of(h, 1));
                Edge.accepted("on(" + h + ", " + n + ", 1)", Edge::inLent, x -> x.on(house, n, 1), then.of(h, 3));
            }
            Edge.accepted("rang(" + n + ")", Edge::inLent, x -> x.rang(n), then.now(4));
            Edge.accepted("takings(" + n + ")", Edge::inLent, x -> x.takings(n), then.now(6));
            Edge.accepted("moods(" + n + ")", Edge::inLent, x -> x.moods(n), then.count(2));
        }
    }

    private static void onChangesNothing() {
        MuffinBells x = Edge.inLent();
        x.on(7, 200, 0);
        x.on(7, 200, 1);
        x.rang(200);
        x.takings(200);
        x.moods(200);
        x.empty();
        x.comes(7);
        x.when(0);
        Due.same("nothing changes", Edge.whole(x), Edge.whole(Edge.inLent()));
    }

    private static MuffinBells withTray(int tray) {
        MuffinBells x = new MuffinBells();
        for (int house = 0; house < 8; house++) {
            x.set(house, 2, 999);
        }
        x.hours(1);
        x.man(2, tray);
        return x;
    }

    private static void emptyNow() {
        Edge.accepted("empty() of an empty tray", () -> withTray(0), x -> x.empty(), 0);
        Edge.accepted("empty() of one muffin", () -> withTray(1), x -> x.empty(), 1);
    }

    /** Plain houses buy one in each of the 160 hours out of 200 that aren't rests; the last of 200 from hour 1 is hour 200. */
    private static void emptyInTheLastHour() {
        Edge.accepted("empty() of 159", () -> withTray(159), x -> x.empty(), 198);
        Edge.accepted("empty() of 160", () -> withTray(160), x -> x.empty(), 200);
    }

    private static void emptyNever() {
        Edge.refused("empty() of 161", () -> withTray(161), x -> x.empty(), Due.NONE);
        Edge.refused("empty() of a full tray", () -> withTray(999), x -> x.empty(), Due.NONE);
        Edge.refused("empty() where none can pay", EdgesOfHoursTest::poor, x -> x.empty(), Due.NONE);
    }

    private static MuffinBells poor() {
        MuffinBells x = Edge.furnished();
        x.man(2, 1);
        for (int house = 0; house < 8; house++) {
            x.set(house, 2, 1);
        }
        return x;
    }

    private static void comesWithin() {
        Edge.within("comes(house)", (x, house) -> x.comes(house), 0, 7);
    }

    private static void comesNow() {
        for (int house = 0; house < 8; house++) {
            MuffinBells x = new MuffinBells();
            x.man(0, house);
            Due.is("comes(" + house + ") where he is", x.comes(house), 0);
            Due.is("comes, the next one", x.comes((house + 1) % 8), 1);
        }
    }

    private static void comesLatest() {
        MuffinBells x = new MuffinBells();
        x.hours(3);
        Due.is("comes, the one behind him, over rests in hours 4 and 9", x.comes(2), 9);
        x.man(1, 0);
        Due.is("comes, the one behind him, backwards", x.comes(4), 9);
        x.hours(1);
        Due.is("comes, the next one, after a rest", x.comes(1), 2);
    }

    private static void whenWithin() {
        Edge.accepted("when(0)", () -> ringing(0, 0), x -> x.when(0), 1);
        Edge.accepted("when(6)", () -> ringing(20, 0), x -> x.when(6), 1);
        int[] beyond = {-1, 7, Integer.MIN_VALUE, Integer.MAX_VALUE};
        for (int tone : beyond) {
            Edge.refused("when(" + tone + ")", x -> x.when(tone), Due.BEYOND);
        }
    }

    private static MuffinBells ringing(int mood, int crack) {
        MuffinBells x = new MuffinBells();
        for (int house = 0; house < 8; house++) {
            x.set(house, 1, mood);
        }
        x.man(4, crack);
        return x;
    }

    private static void whenNow() {
        for (int t = 0; t < 7; t++) {
            int tone = t;
            Edge.accepted("when(" + tone + ") that rang", () -> rang(tone), x -> x.when(tone), 0);
        }
    }

    private static MuffinBells rang(int tone) {
        MuffinBells x = Edge.furnished();
        x.man(3, tone);
        return x;
    }

    /** Of houses that all ring 0, the bell rings 3 when it is cracked: it was heard fifty times before, with twelve rests. */
    private static void whenLatest() {
        Edge.accepted("when(3) of a whole bell", () -> ringing(0, 0), x -> x.when(3), 63);
        Edge.accepted("when(3) of a bell of 49", () -> ringing(0, 49), x -> x.when(3), 2);
        Edge.accepted("when(3) of a bell of 50", () -> ringing(0, 50), x -> x.when(3), 1);
        Edge.accepted("when(0) of a bell of 49", () -> ringing(0, 49), x -> x.when(0), 1);
    }

    private static void whenNever() {
        Edge.refused("when(0) of a bell of 50", () -> ringing(0, 50), x -> x.when(0), Due.NONE);
        Edge.refused("when(6) of sad houses", () -> ringing(0, 0), x -> x.when(6), Due.NONE);
        Edge.refused("when(0) of glad houses", () -> ringing(20, 0), x -> x.when(0), Due.NONE);
    }

    private static void whenIsAskedBeyondFirst() {
        Edge.refused("when(7) of sad houses", () -> ringing(0, 0), x -> x.when(7), Due.BEYOND);
        Edge.refused("when(-1) where nothing rang", () -> ringing(0, 0), x -> x.when(-1), Due.BEYOND);
    }
}
