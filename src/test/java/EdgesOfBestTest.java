/** The edges that promises 19 to 26 name. */
public final class EdgesOfBestTest {
    public static void main(String[] args) {
        beginWithin();
        beginAtTheEnds();
        beginOfSeveral();
        wayWithin();
        wayOfBoth();
        moodWithin();
        moodAtTheEnds();
        moodOfSeveral();
        kindWithin();
        kindAtTheEnds();
        kindOfSeveral();
        enoughWithin();
        enoughAtTheEnds();
        enoughNone();
        bearsWithin();
        bearsAtTheEnds();
        bearsNone();
        swapWithin();
        swapAtTheEnds();
        swapOfSeveral();
        swapNone();
        saddestWithin();
        saddestAtTheEnds();
        saddestOfSeveral();
        weighingChangesNothing();
        Due.end();
    }

    /** Plain houses but these, which are of a kind; he is at a house, and has heard a tone. */
    private static MuffinBells terrace(int kind, int at, int rang, int... houses) {
        MuffinBells x = new MuffinBells();
        for (int house : houses) {
            x.turn(house, kind);
        }
        x.man(0, at);
        x.man(3, rang);
        return x;
    }

    private static MuffinBells resting(MuffinBells x) {
        int at = x.now(1);
        int rang = x.now(4);
        x.hours(4);
        x.man(0, at);
        x.man(3, rang);
        return x;
    }

    private static void beginWithin() {
        Edge.within("begin(n)", (x, n) -> x.begin(n), 1, 60);
    }

    private static void beginAtTheEnds() {
        for (int h = 0; h < 8; h++) {
            int house = h;
            Edge.accepted("begin(1)", () -> terrace(Due.GRAVE, 3, 0, house), x -> x.begin(1), house);
        }
        Edge.accepted("begin(1) in a rest", () -> resting(terrace(Due.GRAVE, 3, 0, 7)), x -> x.begin(1), 0);
        Edge.accepted("begin(2) from a rest on", () -> resting(terrace(Due.GRAVE, 3, 0, 7)), x -> x.begin(2), 7);
    }

    private static void beginOfSeveral() {
        Edge.accepted("begin(1) of two", () -> terrace(Due.GRAVE, 5, 0, 4, 7), x -> x.begin(1), 4);
        Edge.accepted("begin(1) where nothing rang", () -> terrace(Due.GRAVE, 5, -1, 7), x -> x.begin(1), 0);
        Edge.accepted("begin(60) where all are alike", Edge::alike, x -> x.begin(60), 0);
    }

    private static void wayWithin() {
        Edge.within("way(n)", (x, n) -> x.way(n), 1, 60);
    }

    /** House 0 is so glad that it rings 6: a plain house hearing that is gladder, a grave one sadder. */
    private static MuffinBells between(int before, int behind) {
        MuffinBells x = new MuffinBells();
        x.set(0, 1, 20);
        x.turn(7, before);
        x.turn(1, behind);
        return x;
    }

    private static void wayOfBoth() {
        Edge.accepted("way(2), forward is better", () -> between(Due.GRAVE, Due.HOUSE), x -> x.way(2), 1);
        Edge.accepted("way(2), backward is better", () -> between(Due.HOUSE, Due.GRAVE), x -> x.way(2), 0);
        Edge.accepted("way(2), both", () -> between(Due.GRAVE, Due.GRAVE), x -> x.way(2), 0);
        Edge.accepted("way(1), in which he gets nowhere", () -> between(Due.GRAVE, Due.HOUSE), x -> x.way(1), 0);
        Edge.accepted("way(60) where all are alike", Edge::alike, x -> x.way(60), 0);
    }

    private static void moodWithin() {
        Edge.within("mood(house, 1)", (x, house) -> x.mood(house, 1), 0, 7);
        Edge.within("mood(7, n)", (x, n) -> x.mood(7, n), 1, 60);
    }

    /** The house is sadder by one at each of six visits, and the gay house behind it buys two while it hears above 4. */
    private static MuffinBells fallingMood() {
        MuffinBells x = new MuffinBells();
        for (int house = 1; house < 8; house++) {
            x.set(house, 1, 0);
        }
        x.turn(1, Due.GAY);
        x.man(2, 999);
        x.man(3, 0);
        return x;
    }

    private static void moodAtTheEnds() {
        int[][] cases = {{2, 16}, {12, 17}, {22, 18}, {32, 19}, {42, 20}, {60, 20}};
        for (int[] c : cases) {
            Edge.accepted("mood(0, " + c[0] + ")", EdgesOfBestTest::fallingMood, x -> x.mood(0, c[0]), c[1]);
        }
        Edge.accepted("mood(0, 2), the saddest", () -> terrace(Due.GRAVE, 0, -1, 1), x -> x.mood(0, 2), 0);
    }

    private static void moodOfSeveral() {
        Edge.accepted("mood(3, 1) where he isn't", () -> terrace(Due.GAY, 0, 6, 3), x -> x.mood(3, 1), 0);
        Edge.accepted("mood(7, 60) where none can pay", EdgesOfBestTest::poor, x -> x.mood(7, 60), 0);
        Edge.accepted("mood(0, 2), glad enough", () -> terrace(Due.GAY, 0, -1, 1), x -> x.mood(0, 2), 15);
    }

    private static MuffinBells poor() {
        MuffinBells x = Edge.furnished();
        for (int house = 0; house < 8; house++) {
            x.set(house, 2, 1);
        }
        return x;
    }

    private static void kindWithin() {
        Edge.within("kind(house, 1)", (x, house) -> x.kind(house, 1), 0, 7);
        Edge.within("kind(7, n)", (x, n) -> x.kind(7, n), 1, 60);
    }

    private static void kindAtTheEnds() {
        Edge.accepted("kind(7, 1) hearing 0", () -> terrace(Due.CHOIR, 7, 0, 7), x -> x.kind(7, 1), Due.LENT);
        Edge.accepted("kind(0, 1) hearing 1", () -> terrace(Due.CHOIR, 0, 1, 0), x -> x.kind(0, 1), Due.LENT);
        Edge.accepted("kind(0, 1) hearing 5", () -> terrace(Due.CHOIR, 0, 5, 0), x -> x.kind(0, 1), Due.WALTZ);
    }

    private static void kindOfSeveral() {
        Edge.accepted("kind(0, 1) hearing 2", () -> terrace(Due.CHOIR, 0, 2, 0), x -> x.kind(0, 1), Due.WALTZ);
        Edge.accepted("kind(0, 1) where he isn't", () -> terrace(Due.LENT, 1, 0, 0), x -> x.kind(0, 1), 0);
        Edge.accepted("kind(0, 1) of three muffins", () -> withTray(3), x -> x.kind(0, 1), Due.GRAVE);
        Edge.accepted("kind(0, 1) of one muffin", () -> withTray(1), x -> x.kind(0, 1), Due.HOUSE);
        Edge.accepted("kind(0, 1) of an empty tray", () -> withTray(0), x -> x.kind(0, 1), Due.HOUSE);
        Edge.accepted("kind(0, 1) that ATE 9998", () -> thatAte(9998), x -> x.kind(0, 1), Due.HOUSE);
        Edge.accepted("kind(0, 1) that ATE 9997", () -> thatAte(9997), x -> x.kind(0, 1), Due.GRAVE);
    }

    private static MuffinBells withTray(int tray) {
        MuffinBells x = terrace(Due.LENT, 0, 0, 0);
        x.man(2, tray);
        return x;
    }

    private static MuffinBells thatAte(int ate) {
        MuffinBells x = terrace(Due.LENT, 0, 0, 0);
        x.set(0, 3, ate);
        return x;
    }

    private static void enoughWithin() {
        Edge.within("enough(n)", (x, n) -> x.enough(n), 1, 60);
        Edge.refused("enough(61), asked first", Edge::inLent, x -> x.enough(61), Due.BEYOND);
        Edge.refused("enough(0), asked first", Edge::inLent, x -> x.enough(0), Due.BEYOND);
    }

    /** Six at each of 33 hours that aren't rests are 198. */
    private static MuffinBells lent() {
        MuffinBells x = new MuffinBells();
        for (int house = 0; house < 8; house++) {
            x.turn(house, Due.LENT);
            x.set(house, 2, 999);
        }
        x.man(3, 0);
        return x;
    }

    private static void enoughAtTheEnds() {
        Edge.accepted("enough(1) where nothing rang", Edge::alike, x -> x.enough(1), 1);
        Edge.accepted("enough(60) where none can pay", EdgesOfBestTest::poor, x -> x.enough(60), 1);
        Edge.accepted("enough(41)", EdgesOfBestTest::lent, x -> x.enough(41), 199);
    }

    private static void enoughNone() {
        Edge.refused("enough(42)", EdgesOfBestTest::lent, x -> x.enough(42), Due.NONE);
        Edge.refused("enough(60)", Edge::inLent, x -> x.enough(60), Due.NONE);
        Edge.refused("enough(42) of one more than 198", EdgesOfBestTest::oneMore, x -> x.enough(42), Due.NONE);
        Edge.accepted("enough(41) of one less than 198", EdgesOfBestTest::oneLess, x -> x.enough(41), 198);
    }

    /** In the hour 41 he is at house 1, which pays for one muffin alone then: it has bought six four times before. */
    private static MuffinBells oneMore() {
        MuffinBells x = lent();
        x.set(1, 2, 4 * 12 + 2);
        return x;
    }

    /** In the hour 40 he is at house 0, which pays for five muffins alone then: it has bought six four times before. */
    private static MuffinBells oneLess() {
        MuffinBells x = lent();
        x.set(0, 2, 4 * 12 + 11);
        return x;
    }

    private static void bearsWithin() {
        int[] beyond = {0, -1, 61, Integer.MIN_VALUE, Integer.MAX_VALUE};
        for (int n : beyond) {
            Edge.refused("bears(" + n + ", 0)", x -> x.bears(n, 0), Due.BEYOND);
            Edge.refused("bears(" + n + ", 99999), asked first", x -> x.bears(n, 99999), Due.BEYOND);
        }
        int[] beyondPence = {-1, 100000, Integer.MIN_VALUE, Integer.MAX_VALUE};
        for (int v : beyondPence) {
            Edge.refused("bears(60, " + v + ")", x -> x.bears(60, v), Due.BEYOND);
        }
        Edge.accepted("bears(1, 0)", Edge::furnished, x -> x.bears(1, 0), 99);
        Edge.accepted("bears(60, 0)", Edge::furnished, x -> x.bears(60, 0), 99);
        Edge.refused("bears(60, 99999)", x -> x.bears(60, 99999), Due.NONE);
    }

    /** Each of 48 visits sells three muffins while the bell is whole, the first in any case, and one when it is cracked. */
    private static MuffinBells darkHouses() {
        MuffinBells x = terrace(Due.GRAVE, 0, 0, 0, 1, 2, 3, 4, 5, 6, 7);
        for (int house = 0; house < 8; house++) {
            x.set(house, 1, 0);
            x.set(house, 2, 999);
        }
        x.man(2, 999);
        return x;
    }

    private static void bearsAtTheEnds() {
        int[][] cases = {{0, 99}, {100, 99}, {101, 49}, {104, 49}, {105, 48}, {284, 4}, {285, 3}, {288, 3}};
        for (int[] c : cases) {
            Edge.accepted("bears(60, " + c[0] + ")", EdgesOfBestTest::darkHouses, x -> x.bears(60, c[0]), c[1]);
        }
        Edge.accepted("bears(1, 6)", EdgesOfBestTest::darkHouses, x -> x.bears(1, 6), 99);
    }

    private static void bearsNone() {
        Edge.refused("bears(60, 289)", EdgesOfBestTest::darkHouses, x -> x.bears(60, 289), Due.NONE);
        Edge.refused("bears(1, 7)", EdgesOfBestTest::darkHouses, x -> x.bears(1, 7), Due.NONE);
        Edge.refused("bears(0, 289), asked first", EdgesOfBestTest::darkHouses, x -> x.bears(0, 289), Due.BEYOND);
    }

    private static void swapWithin() {
        Edge.accepted("swap(1)", () -> terrace(Due.WALTZ, 0, 6, 1), x -> x.swap(1), 1);
        int[] beyond = {0, -1, 61, Integer.MIN_VALUE, Integer.MAX_VALUE};
        for (int n : beyond) {
            Edge.refused("swap(" + n + ")", x -> x.swap(n), Due.BEYOND);
            Edge.refused("swap(" + n + "), asked first", Edge::alike, x -> x.swap(n), Due.BEYOND);
        }
        Edge.accepted("swap(60)", EdgesOfBestTest::gladNeighbour, x -> x.swap(60), 1);
    }

    /** In sixty hours all are visited; a grave house that hears nothing in the first hour is spared once. */
    private static MuffinBells gladNeighbour() {
        MuffinBells x = terrace(Due.GRAVE, 0, -1, 1);
        for (int house = 0; house < 8; house++) {
            x.set(house, 1, house == 1 ? 20 : 0);
            x.set(house, 2, 0);
        }
        x.man(4, 99);
        return x;
    }

    private static void swapAtTheEnds() {
        for (int l = 0; l < 8; l++) {
            for (int o = l + 1; o < 8; o++) {
                int lesser = l;
                int other = o;
                int due = 10 * lesser + other;
                Edge.accepted("swap(1) to the lesser", () -> terrace(Due.WALTZ, lesser, 6, other), x -> x.swap(1), due);
                Edge.accepted("swap(1) to the other", () -> terrace(Due.WALTZ, other, 6, lesser), x -> x.swap(1), due);
            }
        }
    }

    private static void swapOfSeveral() {
        Edge.accepted("swap(1) of 03, 05", () -> terrace(Due.WALTZ, 0, 6, 3, 5), x -> x.swap(1), 3);
        Edge.accepted("swap(1) of 03, 37", () -> terrace(Due.WALTZ, 3, 6, 0, 7), x -> x.swap(1), 3);
        Edge.accepted("swap(1) of 27, 67", () -> terrace(Due.WALTZ, 7, 6, 2, 6), x -> x.swap(1), 27);
    }

    private static void swapNone() {
        Edge.refused("swap(60) where all are alike", Edge::alike, x -> x.swap(60), Due.NONE);
        Edge.refused("swap(1) of as good ones", () -> terrace(Due.WALTZ, 0, 6, 0, 1), x -> x.swap(1), Due.NONE);
        Edge.refused("swap(1) of worse ones", () -> terrace(Due.GRAVE, 0, 6, 1, 2), x -> x.swap(1), Due.NONE);
        Edge.refused("swap(1) in a rest", () -> resting(terrace(Due.WALTZ, 0, 6, 1)), x -> x.swap(1), Due.NONE);
    }

    private static void saddestWithin() {
        Edge.within("saddest(n)", (x, n) -> x.saddest(n), 0, 200);
    }

    private static void saddestAtTheEnds() {
        for (int h = 0; h < 8; h++) {
            int house = h;
            Edge.accepted("saddest(0)", () -> sad(house, house), x -> x.saddest(0), house);
        }
        Edge.accepted("saddest(1), one that hears", () -> terrace(Due.GRAVE, 7, 6, 7), x -> x.saddest(1), 7);
        Edge.accepted("saddest(200), grave in the end", () -> terrace(Due.GRAVE, 0, 6, 7), x -> x.saddest(200), 7);
    }

    private static MuffinBells sad(int house, int other) {
        MuffinBells x = new MuffinBells();
        x.set(house, 1, 0);
        x.set(other, 1, 0);
        return x;
    }

    private static void saddestOfSeveral() {
        Edge.accepted("saddest(0) of 3 and 6", () -> sad(3, 6), x -> x.saddest(0), 3);
        Edge.accepted("saddest(0) of 7 and 1", () -> sad(7, 1), x -> x.saddest(0), 1);
        Edge.accepted("saddest(200) where all are alike", Edge::alike, x -> x.saddest(200), 0);
    }

    private static void weighingChangesNothing() {
        MuffinBells x = Edge.furnished();
        x.begin(60);
        x.way(60);
        x.mood(7, 60);
        x.kind(7, 60);
        x.enough(60);
        x.bears(60, 0);
        x.swap(60);
        x.saddest(200);
        Due.same("weighing changes nothing", Edge.whole(x), Edge.whole(Edge.furnished()));
    }
}
