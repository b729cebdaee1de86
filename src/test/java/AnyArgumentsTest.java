import java.util.Random;

/** No call throws, whatever it is given; an answer below -1000000000 is counted once, and changes nothing else. */
public final class AnyArgumentsTest {
    private static final int RUNS = 400;
    private static final int CALLS = 250;
    private static final int ACTS = 40;
    private static final int[] EDGES = {-2, -1, 0, 1, 2, 3, 4, 5, 6, 7, 8, 9, 10, 15, 16, 20, 21, 40, 41, 60, 61, 64, 99,
        100, 101, 199, 200, 201, 999, 1000, 9999, 10000, 99999, 100000, Integer.MAX_VALUE, Integer.MIN_VALUE};

    public static void main(String[] args) {
        for (int seed = 0; seed < RUNS; seed++) {
            run(seed);
        }
        Due.end();
    }

    private static void run(int seed) {
        Random random = new Random(seed);
        MuffinBells x = new MuffinBells();
        MuffinBells twin = new MuffinBells();
        for (int i = 0; i < CALLS; i++) {
            int act = random.nextInt(ACTS);
            int[] v = new int[5];
            for (int k = 0; k < v.length; k++) {
                v[k] = random.nextInt(3) == 0 ? EDGES[random.nextInt(EDGES.length)] : random.nextInt(9);
            }
            String before = Due.state(x);
            int found = x.status(-1);
            long got = answer(x, act, v);
            String call = "act " + act + " of run " + seed;
            Due.is(call + " on a twin", answer(twin, act, v), got);
            boolean isFinding = got <= Due.BEYOND && got >= Due.SIZE;
            Due.is(call + ": findings", x.status(-1), found + (isFinding ? 1 : 0));
            if (isFinding) {
                Due.same(call, Due.state(x), before);
            }
        }
    }

    private static long answer(MuffinBells x, int act, int[] v) {
        return act < 20 ? earlyAnswer(x, act, v) : lateAnswer(x, act, v);
    }

    private static long earlyAnswer(MuffinBells x, int act, int[] v) {
        switch (act) {
            case 0: return x.man(v[0], v[1]);
            case 1: return x.now(v[0]);
            case 2: return x.of(v[0], v[1]);
            case 3: return x.minds(v[0], v[1]);
            case 4: return x.buys(v[0], v[1]);
            case 5: return x.set(v[0], v[1], v[2]);
            case 6: return x.turn(v[0], v[1]);
            case 7: return x.as(v[0], v[1]);
            case 8: return x.move(v[0], v[1]);
            case 9: return x.hours(v[0]);
            case 10: return x.on(v[0], v[1], v[2]);
            case 11: return x.rang(v[0]);
            case 12: return x.takings(v[0]);
            case 13: return x.moods(v[0]);
            case 14: return x.empty();
            case 15: return x.comes(v[0]);
            case 16: return x.when(v[0]);
            case 17: return x.begin(v[0]);
            case 18: return x.way(v[0]);
            default: return x.mood(v[0], v[1]);
        }
    }

    private static long lateAnswer(MuffinBells x, int act, int[] v) {
        switch (act) {
            case 20: return x.kind(v[0], v[1]);
            case 21: return x.enough(v[0]);
            case 22: return x.bears(v[0], v[1]);
            case 23: return x.swap(v[0]);
            case 24: return x.saddest(v[0]);
            case 25: return x.feed(v[0], v[1]);
            case 26: return x.wipe();
            case 27: return x.terrace();
            case 28: return x.sheet(v[0], v[1] * 8, v[2]);
            case 29: return x.write(v[0], v[1], v[2] % 100000);
            case 30: return x.copy(v[0], v[1], v[2], v[3], v[4]);
            case 31: return x.lays(v[0]);
            case 32: return x.book(v[0]);
            case 33: return x.read(v[0], v[1]);
            case 34: return x.image();
            case 35: return x.undo();
            case 36: return x.tear();
            case 37: return x.count(v[0]);
            case 38: return x.status(v[0]);
            default: return x.feed("tray 7;man 3 back;lent 2".charAt(Math.floorMod(v[0], 24)), 1);
        }
    }
}
