/** Promises 19 to 26: each answer is weighed against all that could be tried by the other calls. */
public final class BestTest {
    private static final int TERRACES = 60;
    private static final int[] SPANS = {1, 2, 3, 9, 20, 37, 60};

    public static void main(String[] args) {
        for (int seed = 0; seed < TERRACES; seed++) {
            for (int n : SPANS) {
                begin(seed, n);
                way(seed, n);
                mood(seed, seed % 8, n);
                kind(seed, seed % 8, n);
                enough(seed, n);
                bears(seed, n);
                swap(seed, n);
            }
        }
        ofSeveralTheLeast();
        enoughNone();
        bearsEdges();
        saddest();
        spansBeyond();
        housesBeyond();
        Due.end();
    }

    private static void begin(int seed, int n) {
        MuffinBells x = Due.mixed(seed);
        String before = Due.state(x);
        int got = x.begin(n);
        Due.same("begin changes nothing", Due.state(x), before);
        int best = -1;
        int most = -1;
        for (int house = 0; house < 8; house++) {
            x.man(0, house);
            if (x.takings(n) > most) {
                most = x.takings(n);
                best = house;
            }
        }
        Due.is("begin(" + n + ") of terrace " + seed, got, best);
    }

    private static void way(int seed, int n) {
        MuffinBells x = Due.mixed(seed);
        String before = Due.state(x);
        int got = x.way(n);
        Due.same("way changes nothing", Due.state(x), before);
        x.man(1, 0);
        int back = x.moods(n);
        x.man(1, 1);
        Due.is("way(" + n + ") of terrace " + seed, got, x.moods(n) > back ? 1 : 0);
    }

    private static void mood(int seed, int house, int n) {
        MuffinBells x = Due.mixed(seed);
        String before = Due.state(x);
        int got = x.mood(house, n);
        Due.same("mood changes nothing", Due.state(x), before);
        int best = -1;
        int most = -1;
        for (int mood = 0; mood <= 20; mood++) {
            x.set(house, 1, mood);
            if (x.takings(n) > most) {
                most = x.takings(n);
                best = mood;
            }
        }
        Due.is("mood(" + house + ", " + n + ") of terrace " + seed, got, best);
    }

    private static void kind(int seed, int house, int n) {
        MuffinBells x = Due.mixed(seed);
        String before = Due.state(x);
        int got = x.kind(house, n);
        Due.same("kind changes nothing", Due.state(x), before);
        int best = -1;
        int most = -1;
        for (int kind = 0; kind < 6; kind++) {
            x.turn(house, kind);
            if (x.on(house, n, 1) > most) {
                most = x.on(house, n, 1);
                best = kind;
            }
        }
        Due.is("kind(" + house + ", " + n + ") of terrace " + seed, got, best);
    }

    private static void enough(int seed, int n) {
        MuffinBells x = Due.mixed(seed);
        String before = Due.state(x);
        int got = x.enough(n);
        Due.same("enough changes nothing", Due.state(x), before);
        int best = Due.NONE;
        for (int tray = 199; tray >= 0; tray--) {
            x.man(2, tray);
            int empty = x.empty();
            if (empty == Due.NONE || empty > n) {
                best = tray;
            }
        }
        Due.is("enough(" + n + ") of terrace " + seed, got, best);
    }

    private static void bears(int seed, int n) {
        int[] takings = new int[100];
        MuffinBells y = Due.mixed(seed);
        for (int crack = 0; crack <= 99; crack++) {
            y.man(4, crack);
            takings[crack] = y.takings(n);
        }
        int[] asked = {0, takings[0], takings[0] + 1, takings[40], takings[50] + 1, takings[99], takings[99] + 1};
        for (int v : asked) {
            MuffinBells x = Due.mixed(seed);
            String before = Due.state(x);
            int best = Due.NONE;
            for (int crack = 0; crack <= 99; crack++) {
                best = takings[crack] >= v ? crack : best;
            }
            Due.is("bears(" + n + ", " + v + ") of terrace " + seed, x.bears(n, v), best);
            Due.same("bears changes nothing", Due.state(x), before);
        }
    }

    private static void swap(int seed, int n) {
        MuffinBells x = Due.mixed(seed);
        String before = Due.state(x);
        int got = x.swap(n);
        Due.same("swap changes nothing", Due.state(x), before);
        int most = x.moods(n);
        int best = Due.NONE;
        for (int house = 0; house < 8; house++) {
            for (int other = house + 1; other < 8; other++) {
                x.move(house, other);
                int moods = x.moods(n);
                x.move(house, other);
                if (moods > most) {
                    most = moods;
                    best = 10 * house + other;
                }
            }
        }
        Due.is("swap(" + n + ") of terrace " + seed, got, best);
    }

    private static void ofSeveralTheLeast() {
        MuffinBells x = new MuffinBells();
        x.man(0, 5);
        Due.is("begin(10) where all are alike", x.begin(10), 0);
        Due.is("way(10) where both are alike", x.way(10), 0);
        Due.is("mood(3, 1) where he isn't", x.mood(3, 1), 0);
        Due.is("kind(3, 1) where he isn't", x.kind(3, 1), 0);
        Due.is("swap(10) where all are alike", x.swap(10), Due.NONE);
        x.set(4, 3, 9999);
        x.man(0, 4);
        x.man(3, 0);
        Due.is("kind(4, 1) that ATE as much as can be", x.kind(4, 1), 0);
        x.set(4, 3, 0);
        Due.is("kind(4, 1) hearing 0", x.kind(4, 1), Due.LENT);
        x.man(3, 6);
        Due.is("kind(4, 1) hearing 6", x.kind(4, 1), Due.WALTZ);
        x.man(2, 2);
        Due.is("kind(4, 1) of two muffins", x.kind(4, 1), Due.GAY);
    }

    private static void enoughNone() {
        MuffinBells x = new MuffinBells();
        for (int house = 0; house < 8; house++) {
            x.turn(house, Due.LENT);
            x.set(house, 2, 999);
        }
        x.man(3, 0);
        Due.is("enough(60) in Lent", x.enough(60), Due.NONE);
        Due.is("enough(1) in Lent", x.enough(1), 7);
        Due.is("enough(41): 33 times six and one", x.enough(41), 199);
        Due.is("enough(42)", x.enough(42), Due.NONE);
        x.set(1, 2, 50);
        Due.is("enough(42): 33 times six, one, and one", x.enough(42), Due.NONE);
        Due.is("findings NONE", x.status(3), 3);
    }

    private static void bearsEdges() {
        MuffinBells x = new MuffinBells();
        Due.is("bears(60, 0)", x.bears(60, 0), 99);
        Due.is("bears(60, 99999)", x.bears(60, 99999), Due.NONE);
        Due.is("bears(1, 1)", x.bears(1, 1), Due.NONE);
        Due.is("bears(1, -1)", x.bears(1, -1), Due.BEYOND);
        Due.is("bears(1, 100000)", x.bears(1, 100000), Due.BEYOND);
        // Grave houses in a dark mood ring 0 and buy three: a bell that cracks on the way makes them buy one.
        for (int house = 0; house < 8; house++) {
            x.turn(house, Due.GRAVE);
            x.set(house, 2, 999);
        }
        x.man(2, 999);
        x.man(3, 0);
        Due.is("bears(5, 24)", x.bears(5, 24), 47);
        Due.is("bears(5, 20)", x.bears(5, 20), 48);
        Due.is("bears(5, 25)", x.bears(5, 25), Due.NONE);
    }

    private static void saddest() {
        MuffinBells x = new MuffinBells();
        Due.is("saddest(0) of all alike", x.saddest(0), 0);
        x.set(6, 1, 4);
        x.set(3, 1, 4);
        Due.is("saddest(0) of two", x.saddest(0), 3);
        x.set(7, 1, 3);
        Due.is("saddest(0)", x.saddest(0), 7);
        Due.is("saddest(-1)", x.saddest(-1), Due.BEYOND);
        Due.is("saddest(201)", x.saddest(201), Due.BEYOND);
        Due.is("saddest(200)", x.saddest(200) >= 0 ? 1 : 0, 1);
    }

    private static void spansBeyond() {
        MuffinBells x = new MuffinBells();
        int[] wrong = {0, -1, 61, Integer.MIN_VALUE, Integer.MAX_VALUE};
        for (int n : wrong) {
            Due.is("begin(" + n + ")", x.begin(n), Due.BEYOND);
            Due.is("way(" + n + ")", x.way(n), Due.BEYOND);
            Due.is("mood(0, " + n + ")", x.mood(0, n), Due.BEYOND);
            Due.is("kind(0, " + n + ")", x.kind(0, n), Due.BEYOND);
            Due.is("enough(" + n + ")", x.enough(n), Due.BEYOND);
            Due.is("bears(" + n + ", 0)", x.bears(n, 0), Due.BEYOND);
            Due.is("swap(" + n + ")", x.swap(n), Due.BEYOND);
        }
        Due.is("status(0)", x.status(0), 7 * wrong.length);
        Due.is("status(-1)", x.status(-1), 7 * wrong.length);
    }

    private static void housesBeyond() {
        MuffinBells x = new MuffinBells();
        int[] wrong = {-1, 8, Integer.MIN_VALUE, Integer.MAX_VALUE};
        for (int house : wrong) {
            Due.is("mood(" + house + ", 1)", x.mood(house, 1), Due.BEYOND);
            Due.is("kind(" + house + ", 1)", x.kind(house, 1), Due.BEYOND);
        }
    }
}
