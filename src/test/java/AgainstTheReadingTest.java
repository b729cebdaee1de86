import java.util.Arrays;
import java.util.Random;

/** Long runs of all calls, each answered by the class and by a second reading of the document, which must agree. */
public final class AgainstTheReadingTest {
    private static final int RUNS = 400;
    private static final int CALLS = 512;

    /** A call and, for each of its numbers, the least and the most that may be asked with some use. */
    private static final Object[][] CALLS_TOLD = {
        {"now", 0, 7}, {"of", 0, 7, 0, 4}, {"minds", 0, 7, 0, 6}, {"buys", 0, 7, 0, 6},
        {"man", 0, 0, 0, 7}, {"man", 1, 1, 0, 1}, {"man", 2, 2, 0, 99}, {"man", 2, 2, 0, 999}, {"man", 3, 3, -1, 6},
        {"man", 4, 4, 0, 99}, {"man", 4, 4, 40, 52}, {"man", 0, 4, 0, 99},
        {"set", 0, 7, 1, 1, 0, 20}, {"set", 0, 7, 2, 2, 0, 15}, {"set", 0, 7, 2, 2, 0, 999}, {"set", 0, 7, 3, 3, 0, 9999},
        {"set", 0, 7, 3, 3, 9990, 9999}, {"turn", 0, 7, 0, 5}, {"turn", 0, 7, 1, 5}, {"as", 0, 7, 0, 5},
        {"move", 0, 7, 0, 7}, {"hours", 1, 9}, {"hours", 1, 100}, {"on", 0, 7, 0, 200, 0, 1}, {"on", 0, 7, 0, 20, 0, 1},
        {"rang", 0, 200}, {"rang", 0, 60}, {"takings", 0, 200}, {"moods", 0, 200}, {"empty"}, {"comes", 0, 7}, {"when", 0, 6},
        {"begin", 1, 60}, {"way", 1, 60}, {"mood", 0, 7, 1, 60}, {"kind", 0, 7, 1, 60}, {"enough", 1, 60},
        {"bears", 1, 60, 0, 99999}, {"bears", 1, 60, 0, 400}, {"swap", 1, 60}, {"saddest", 0, 200},
        {"feed", Integer.MIN_VALUE, Integer.MAX_VALUE, 1, 4}, {"wipe"}, {"terrace"},
        {"sheet", 0, 3, 8, 8, 0, 40}, {"sheet", 0, 3, 16, 16, 0, 40}, {"sheet", 0, 3, 64, 64, 0, 40},
        {"sheet", 0, 3, 0, 0, 0, 40}, {"sheet", 0, 3, 8, 8, 0, 5}, {"write", 0, 3, 0, 39, -70000, 70000},
        {"write", 0, 3, 0, 12, -1, 21}, {"write", 0, 3, 0, 5, -1, 6}, {"copy", 0, 3, 0, 9, 0, 3, 0, 9, 0, 9},
        {"lays", 0, 3}, {"book", 0, 3}, {"read", 0, 3, 0, 7}, {"image"}, {"undo"}, {"tear"}, {"count", 0, 3}, {"status", -1, 6},
    };
    private static final String[] WORDS = {"house", "gay", "grave", "choir", "waltz", "lent", "man", "tray", "crack", "mood",
        "pence", "back", ";", " ", "  ", "0", "3", "7", "8", "20", "21", "99", "100", "999", "1000", "007", "x", "?", "M"};

    private final Random random;
    private final MuffinBells x = new MuffinBells();
    private final Reading reading = new Reading();
    private final String run;
    private int calls = 0;

    private AgainstTheReadingTest(int seed) {
        random = new Random(seed);
        run = "run " + seed;
    }

    public static void main(String[] args) {
        for (int seed = 0; seed < RUNS; seed++) {
            new AgainstTheReadingTest(seed).go();
        }
        Due.end();
    }

    private void go() {
        if (random.nextInt(3) == 0) {
            furnishRich();
        }
        while (calls < CALLS) {
            int turn = random.nextInt(120);
            if (turn == 0) {
                fillTheTape();
            } else if (turn < 5) {
                tellAText();
            } else {
                askOne(CALLS_TOLD[random.nextInt(CALLS_TOLD.length)]);
            }
        }
    }

    /** Houses that buy a lot and can pay for it: trays run out, and no tray is enough. */
    private void furnishRich() {
        int kind = random.nextInt(3) == 0 ? 4 : 5;
        int mood = random.nextInt(21);
        for (int house = 0; house < 8; house++) {
            ask("turn", house, random.nextInt(12) == 0 ? random.nextInt(6) : kind);
            ask("set", house, 1, mood);
            ask("set", house, 2, 999);
        }
        ask("man", 2, 150 + random.nextInt(850));
        ask("man", 3, random.nextInt(7));
    }

    /** Up to the last byte and beyond, and then what there is is read. */
    private void fillTheTape() {
        if (random.nextBoolean()) {
            ask("wipe");
        }
        for (int i = 0; i < 32; i++) {
            ask("feed", random.nextInt(9) == 0 ? 0x743b6372 : 0x20202020, random.nextInt(5) == 0 ? 1 + random.nextInt(4) : 4);
        }
        ask("feed", ';', 1);
        ask("count", 1);
        if (random.nextBoolean()) {
            ask("terrace");
        }
    }

    private void askOne(Object[] told) {
        long[] v = new long[(told.length - 1) / 2];
        for (int i = 0; i < v.length; i++) {
            long least = (Integer) told[1 + 2 * i];
            long most = (Integer) told[2 + 2 * i];
            v[i] = least + Math.floorMod(random.nextLong(), most - least + 1);
        }
        if (v.length > 0 && random.nextInt(12) == 0) {
            int i = random.nextInt(v.length);
            v[i] = astray((Integer) told[1 + 2 * i], (Integer) told[2 + 2 * i]);
        }
        if (told[0].equals("write") && random.nextInt(4) == 0) {
            v[2] = random.nextLong();
        }
        ask((String) told[0], v);
    }

    /** What is next to the edges, or far off. */
    private int astray(int least, int most) {
        int[] all = {least - 1, least, most, most + 1, -1, 0, Integer.MIN_VALUE, Integer.MAX_VALUE, random.nextInt()};
        return all[random.nextInt(all.length)];
    }

    private void ask(String call, long... v) {
        if (calls < CALLS) {
            calls++;
            Due.is(run + ", call " + calls + ": " + call + Arrays.toString(v), answered(call, v), reading.answer(call, v));
        }
    }

    /** Texts by the grammar, often with a token changed, left out or put in, so that FAULTS stand everywhere. */
    private void tellAText() {
        StringBuilder text = new StringBuilder();
        int items = 1 + random.nextInt(4);
        for (int i = 0; i < items; i++) {
            text.append(i == 0 ? "" : ";").append(blanks(0)).append(anItem()).append(blanks(0));
        }
        if (random.nextInt(2) == 0) {
            int place = random.nextInt(text.length() + 1);
            int end = Math.min(text.length(), place + random.nextInt(4));
            text.replace(place, end, random.nextInt(3) == 0 ? "" : WORDS[random.nextInt(WORDS.length)]);
        }
        ask("wipe");
        for (int place = 0; place < text.length(); ) {
            int n = Math.min(text.length() - place, 1 + random.nextInt(4));
            int bytes = random.nextInt();
            for (int i = 0; i < n; i++) {
                bytes = bytes << 8 | text.charAt(place + i);
            }
            ask("feed", bytes, n);
            place += n;
        }
        ask("terrace");
        for (int what = 1; what <= 5; what++) {
            ask("now", what);
        }
        int house = random.nextInt(8);
        ask("of", house, 0);
        ask("of", house, 1);
        ask("of", house, 2);
        ask("count", 2);
    }

    private String anItem() {
        switch (random.nextInt(6)) {
            case 0:
                return "man" + number(7) + (random.nextBoolean() ? blanks(0) + "back" : "");
            case 1:
                return "tray" + number(999);
            case 2:
                return "crack" + number(99);
            default:
                String item = WORDS[random.nextInt(6)] + number(7);
                item += random.nextBoolean() ? blanks(0) + "mood" + number(20) : "";
                return item + (random.nextBoolean() ? blanks(0) + "pence" + number(999) : "");
        }
    }

    private String number(int most) {
        int v = random.nextInt(15) == 0 ? most + random.nextInt(2) : random.nextInt(most + 1);
        return blanks(0) + (random.nextInt(10) == 0 ? "0" : "") + v;
    }

    private String blanks(int least) {
        return " ".repeat(least + Math.max(0, random.nextInt(5) - 2));
    }

    private long answered(String call, long[] v) {
        int[] a = new int[5];
        for (int i = 0; i < v.length; i++) {
            a[i] = (int) v[i];
        }
        switch (call) {
            case "man": return x.man(a[0], a[1]);
            case "now": return x.now(a[0]);
            case "of": return x.of(a[0], a[1]);
            case "minds": return x.minds(a[0], a[1]);
            case "buys": return x.buys(a[0], a[1]);
            case "set": return x.set(a[0], a[1], a[2]);
            case "turn": return x.turn(a[0], a[1]);
            case "as": return x.as(a[0], a[1]);
            case "move": return x.move(a[0], a[1]);
            case "hours": return x.hours(a[0]);
            case "on": return x.on(a[0], a[1], a[2]);
            case "rang": return x.rang(a[0]);
            case "takings": return x.takings(a[0]);
            case "moods": return x.moods(a[0]);
            case "empty": return x.empty();
            case "comes": return x.comes(a[0]);
            case "when": return x.when(a[0]);
            case "begin": return x.begin(a[0]);
            case "way": return x.way(a[0]);
            case "mood": return x.mood(a[0], a[1]);
            case "kind": return x.kind(a[0], a[1]);
            case "enough": return x.enough(a[0]);
            case "bears": return x.bears(a[0], a[1]);
            case "swap": return x.swap(a[0]);
            case "saddest": return x.saddest(a[0]);
            default: return answeredOfTheRest(call, a, v);
        }
    }

    private long answeredOfTheRest(String call, int[] a, long[] v) {
        switch (call) {
            case "feed": return x.feed(a[0], a[1]);
            case "wipe": return x.wipe();
            case "terrace": return x.terrace();
            case "sheet": return x.sheet(a[0], a[1], a[2]);
            case "write": return x.write(a[0], a[1], v[2]);
            case "copy": return x.copy(a[0], a[1], a[2], a[3], a[4]);
            case "lays": return x.lays(a[0]);
            case "book": return x.book(a[0]);
            case "read": return x.read(a[0], a[1]);
            case "image": return x.image();
            case "undo": return x.undo();
            case "tear": return x.tear();
            case "count": return x.count(a[0]);
            case "status": return x.status(a[0]);
            default: throw new IllegalStateException("no call " + call);
        }
    }
}
