import java.nio.charset.StandardCharsets;
import java.util.ArrayList;
import java.util.Arrays;
import java.util.List;
import java.util.function.ToIntFunction;
import java.util.regex.Matcher;
import java.util.regex.Pattern;

/**
 * A second reading of the document, sentence by sentence and made otherwise than the class: KINDS are Java classes under
 * one another, each trial is a fresh copy, a sheet is a Java array, THE TEXT is read by a table of what may stand next.
 */
final class Reading {
    /** Thrown where the document names a finding. */
    private static final class Finding extends RuntimeException {
        private static final long serialVersionUID = 1;
        final int told;

        Finding(int told) {
            super(null, null, false, false);
            this.told = told;
        }
    }

    private static class House {
        int tone(int mood, int hour) {
            return mood / 3;
        }

        int minds(int r, int t) {
            return Integer.compare(r, t);
        }

        int buys(int r) {
            return 1;
        }
    }

    private static class Gay extends House {
        @Override int tone(int mood, int hour) {
            return Math.min(6, super.tone(mood, hour) + 1);
        }

        @Override int minds(int r, int t) {
            return super.minds(r, t) + (r > 3 ? 1 : 0);
        }

        @Override int buys(int r) {
            return super.buys(r) + (r > 4 ? 1 : 0);
        }
    }

    private static class Grave extends House {
        @Override int tone(int mood, int hour) {
            return Math.max(0, super.tone(mood, hour) - 2);
        }

        @Override int minds(int r, int t) {
            return -1;
        }

        @Override int buys(int r) {
            return r < 2 ? 3 : super.buys(r);
        }
    }

    private static final class Choir extends House {
        @Override int tone(int mood, int hour) {
            return 3;
        }

        @Override int minds(int r, int t) {
            return List.of(1, 3, 5).contains(r) ? -2 : 1;
        }

        @Override int buys(int r) {
            return List.of(1, 3, 5).contains(r) ? 0 : super.buys(r);
        }
    }

    private static final class Waltz extends Gay {
        @Override int tone(int mood, int hour) {
            return hour % 3 == 1 ? 0 : super.tone(mood, hour);
        }

        @Override int minds(int r, int t) {
            return super.minds(r, t) * 2;
        }

        @Override int buys(int r) {
            return super.buys(r) + 1;
        }
    }

    private static final class Lent extends Grave {
        @Override int tone(int mood, int hour) {
            return mood < 12 ? 0 : super.tone(mood, hour);
        }

        @Override int minds(int r, int t) {
            return r == 0 ? 0 : super.minds(r, t);
        }

        @Override int buys(int r) {
            return super.buys(r) * 2;
        }
    }

    private static final List<House> KINDS =
        List.of(new House(), new Gay(), new Grave(), new Choir(), new Waltz(), new Lent());
    private static final List<String> NAMES = List.of("house", "gay", "grave", "choir", "waltz", "lent");

    /** KIND, MOOD, PENCE, ATE of a house are its four numbers, as of() counts them. */
    private static final class Street {
        int hour = 0;
        /** As man() counts them: the house at which he is, WAY, TRAY, RANG, CRACK. */
        int[] man = {0, 1, 40, -1, 0};
        int takings = 0;
        int[][] families = new int[8][];

        Street() {
            Arrays.setAll(families, house -> new int[] {0, 10, 30, 0});
        }

        Street copy() {
            Street c = new Street();
            c.hour = hour;
            c.man = man.clone();
            c.takings = takings;
            Arrays.setAll(c.families, house -> families[house].clone());
            return c;
        }

        House kind(int house) {
            return KINDS.get(families[house][0]);
        }

        int tone(int house) {
            return kind(house).tone(families[house][1], hour);
        }

        int minds(int house, int r) {
            return kind(house).minds(r, tone(house));
        }

        int buys(int house, int r) {
            int wants = kind(house).buys(r);
            while (2 * wants > families[house][2] || wants > man[2]) {
                wants--;
            }
            return wants;
        }

        boolean rests() {
            return hour % 5 == 4;
        }

        Street after(int n) {
            Street c = copy();
            for (int i = 0; i < n; i++) {
                c.anHour();
            }
            return c;
        }

        void anHour() {
            if (rests()) {
                hour++;
                return;
            }
            int house = man[0];
            int[] family = families[house];
            int r = man[3];
            if (r != -1) {
                family[1] = Math.max(0, Math.min(20, family[1] + minds(house, r)));
                int n = buys(house, r);
                man[2] -= n;
                family[3] = Math.min(9999, family[3] + n);
                family[2] -= 2 * n;
                takings = Math.min(99999, takings + 2 * n);
            }
            man[3] = man[4] >= 50 ? 3 : tone(house);
            man[4] = Math.min(99, man[4] + 1);
            man[0] = Math.floorMod(house + (man[1] == 1 ? 1 : -1), 8);
            hour++;
        }

        int all(int what) {
            return Arrays.stream(families).mapToInt(family -> family[what]).sum();
        }

        void move(int a, int b) {
            int[] was = families[a];
            families[a] = families[b];
            families[b] = was;
        }
    }

    private Street street = new Street();
    private Street kept = null;
    private String tape = "";
    /** null, byte[], short[] or long[]. */
    private final Object[] sheets = new Object[4];
    private final int[] findings = new int[7];

    /** What a call answers, by the name and the numbers that it has. */
    long answer(String call, long... v) {
        try {
            int[] a = Arrays.stream(v).mapToInt(x -> (int) x).toArray();
            return call.equals("write") ? write(a[0], a[1], v[2]) : answered(call, a);
        } catch (Finding finding) {
            findings[-1000000001 - finding.told]++;
            return finding.told;
        }
    }

    private int answered(String call, int[] a) {
        switch (call) {
            case "man": case "now": case "of": case "minds": case "buys":
            case "set": case "turn": case "as": case "move":
                return manAndHouses(call, a);
            case "hours": case "on": case "rang": case "takings":
            case "moods": case "empty": case "comes": case "when":
                return hours(call, a);
            case "begin": case "way": case "mood": case "kind":
            case "enough": case "bears": case "swap": case "saddest":
                return best(call, a);
            case "feed": case "wipe": case "terrace":
                return text(call, a);
            case "sheet": case "copy": case "lays": case "book": case "read":
                return sheets(call, a);
            default:
                return images(call, a);
        }
    }

    private static void within(int v, int least, int most) {
        if (v < least || v > most) {
            throw new Finding(Due.BEYOND);
        }
    }

    // ---- promises 2 to 10

    private int manAndHouses(String call, int[] a) {
        if (call.equals("man")) {
            within(a[0], 0, 4);
            within(a[1], a[0] == 3 ? -1 : 0, new int[] {7, 1, 999, 6, 99}[a[0]]);
            int was = street.man[a[0]];
            street.man[a[0]] = a[1];
            return was;
        }
        if (call.equals("now")) {
            within(a[0], 0, 7);
            int[] m = street.man;
            return new int[] {street.hour, m[0], m[1], m[2], m[3], m[4], street.takings, street.rests() ? 1 : 0}[a[0]];
        }
        within(a[0], 0, 7);
        int[] family = street.families[a[0]];
        switch (call) {
            case "of":
                within(a[1], 0, 4);
                return a[1] == 4 ? street.tone(a[0]) : family[a[1]];
            case "minds":
                within(a[1], 0, 6);
                return 100 + street.minds(a[0], a[1]);
            case "buys":
                within(a[1], 0, 6);
                return street.buys(a[0], a[1]);
            case "set":
                within(a[1], 1, 3);
                within(a[2], 0, new int[] {0, 20, 999, 9999}[a[1]]);
                return become(family, a[1], a[2]);
            case "turn":
                within(a[1], 0, 5);
                return become(family, 0, a[1]);
            case "as":
                within(a[1], 0, 5);
                if (!KINDS.get(a[1]).getClass().isInstance(street.kind(a[0]))) {
                    throw new Finding(Due.KIND);
                }
                return family[1];
            default:
                within(a[1], 0, 7);
                if (a[0] == a[1]) {
                    throw new Finding(Due.BEYOND);
                }
                street.move(a[0], a[1]);
                return 1;
        }
    }

    private static int become(int[] row, int i, int v) {
        int was = row[i];
        row[i] = v;
        return was;
    }

    // ---- promises 11 to 18

    private int hours(String call, int[] a) {
        switch (call) {
            case "hours":
                within(a[0], 1, 100);
                if (street.hour + a[0] > 99999) {
                    throw new Finding(Due.STATE);
                }
                street = street.after(a[0]);
                return street.takings;
            case "on":
                within(a[0], 0, 7);
                within(a[1], 0, 200);
                within(a[2], 0, 1);
                return street.after(a[1]).families[a[0]][a[2] == 0 ? 1 : 3];
            case "rang":
                within(a[0], 0, 200);
                return street.after(a[0]).man[3];
            case "takings":
                within(a[0], 0, 200);
                return street.after(a[0]).takings;
            case "moods":
                within(a[0], 0, 200);
                return street.after(a[0]).all(1);
            case "empty":
                return firstIs(s -> s.man[2], 0);
            case "comes":
                within(a[0], 0, 7);
                return firstIs(s -> s.man[0], a[0]);
            default:
                within(a[0], 0, 6);
                return firstIs(s -> s.man[3], a[0]);
        }
    }

    private int firstIs(ToIntFunction<Street> what, int v) {
        Street s = street;
        for (int n = 0; n <= 200; n++) {
            if (what.applyAsInt(s) == v) {
                return n;
            }
            s = s.after(1);
        }
        throw new Finding(Due.NONE);
    }

    // ---- promises 19 to 26

    private interface Other {
        void than(Street s, int v);
    }

    /** Of what would be with 0, 1, .. up to most, each n hours on, the numbers that are asked. */
    private int[] weighed(int most, int n, Other other, ToIntFunction<Street> what) {
        int[] all = new int[most + 1];
        for (int v = 0; v <= most; v++) {
            Street s = street.copy();
            other.than(s, v);
            all[v] = what.applyAsInt(s.after(n));
        }
        return all;
    }

    private static int leastOfTheMost(int[] all) {
        int most = Arrays.stream(all).max().getAsInt();
        int v = 0;
        while (all[v] != most) {
            v++;
        }
        return v;
    }

    private int best(String call, int[] a) {
        if (call.equals("mood") || call.equals("kind")) {
            within(a[0], 0, 7);
        }
        int n = call.equals("mood") || call.equals("kind") ? a[1] : a[0];
        within(n, call.equals("saddest") ? 0 : 1, call.equals("saddest") ? 200 : 60);
        switch (call) {
            case "begin":
                return leastOfTheMost(weighed(7, n, (s, v) -> s.man[0] = v, s -> s.takings));
            case "way":
                return leastOfTheMost(weighed(1, n, (s, v) -> s.man[1] = v, s -> s.all(1)));
            case "mood":
                return leastOfTheMost(weighed(20, n, (s, v) -> s.families[a[0]][1] = v, s -> s.takings));
            case "kind":
                return leastOfTheMost(weighed(5, n, (s, v) -> s.families[a[0]][0] = v, s -> s.families[a[0]][3]));
            case "enough":
                return enough(n);
            case "bears":
                within(a[1], 0, 99999);
                return bears(n, a[1]);
            case "swap":
                return swap(n);
            default:
                return leastOfTheMost(Arrays.stream(street.after(n).families).mapToInt(f -> -f[1]).toArray());
        }
    }

    private int enough(int n) {
        int[] left = weighed(199, n, (s, v) -> s.man[2] = v, s -> s.man[2]);
        for (int tray = 0; tray <= 199; tray++) {
            if (left[tray] != 0) {
                return tray;
            }
        }
        throw new Finding(Due.NONE);
    }

    private int bears(int n, int least) {
        int[] takings = weighed(99, n, (s, v) -> s.man[4] = v, s -> s.takings);
        for (int crack = 99; crack >= 0; crack--) {
            if (takings[crack] >= least) {
                return crack;
            }
        }
        throw new Finding(Due.NONE);
    }

    private int swap(int n) {
        Other other = (s, pair) -> {
            if (pair / 10 < pair % 10 && pair % 10 < 8) {
                s.move(pair / 10, pair % 10);
            }
        };
        int[] moods = weighed(79, n, other, s -> s.all(1));
        int best = leastOfTheMost(moods);
        // Pair 0 is no pair: it tells how it is with nothing changed.
        if (best == 0) {
            throw new Finding(Due.NONE);
        }
        return best;
    }

    // ---- promises 27 to 29

    private int text(String call, int[] a) {
        int had = tape.length();
        switch (call) {
            case "feed":
                within(a[1], 1, 4);
                if (had + a[1] > 120) {
                    throw new Finding(Due.FULL);
                }
                byte[] all = {(byte) (a[0] >>> 24), (byte) (a[0] >>> 16), (byte) (a[0] >>> 8), (byte) a[0]};
                tape += new String(all, 4 - a[1], a[1], StandardCharsets.ISO_8859_1);
                return tape.length();
            case "wipe":
                tape = "";
                return had;
            default:
                String text = tape;
                tape = "";
                return terrace(text);
        }
    }

    private static final String NAME = "house gay grave choir waltz lent man tray crack";

    private int terrace(String text) {
        Street told = street.copy();
        List<String> item = new ArrayList<>();
        int items = 0;
        Matcher token = Pattern.compile(" *([a-z]+|[0-9]+|[^a-z0-9 ]|$)", Pattern.DOTALL).matcher(text);
        while (token.lookingAt()) {
            String t = token.group(1);
            if (!mayStand(next(item), t)) {
                return -1 - token.start(1);
            }
            if (t.isEmpty() || t.equals(";")) {
                tell(told, item);
                item.clear();
                items++;
            } else {
                item.add(t);
            }
            if (t.isEmpty()) {
                street = told;
                return items;
            }
            token.region(token.end(), text.length());
        }
        throw new IllegalStateException("no token in '" + text + "'");
    }

    /** The words and the sign that may stand behind what there is of an item, END if it may end, or a number's most. */
    private static String next(List<String> item) {
        if (item.isEmpty()) {
            return NAME;
        }
        String first = item.get(0);
        String last = item.get(item.size() - 1);
        boolean isHouse = NAMES.contains(first);
        if (item.size() == 1) {
            return first.equals("tray") ? "<=999" : first.equals("crack") ? "<=99" : "<=7";
        }
        if (last.equals("mood")) {
            return "<=20";
        }
        if (last.equals("pence")) {
            return "<=999";
        }
        if (last.equals("back")) {
            return "; END";
        }
        if (isHouse && item.size() == 2) {
            return "mood pence ; END";
        }
        if (isHouse && !item.contains("pence")) {
            return "pence ; END";
        }
        return first.equals("man") ? "back ; END" : "; END";
    }

    private static boolean mayStand(String next, String token) {
        if (next.startsWith("<=")) {
            int most = Integer.parseInt(next.substring(2));
            String digits = token.replaceFirst("^0+(?=[0-9])", "");
            return digits.matches("[0-9]{1,3}") && Integer.parseInt(digits) <= most;
        }
        return List.of(next.split(" ")).contains(token.isEmpty() ? "END" : token);
    }

    private static void tell(Street told, List<String> item) {
        int number = number(item, 1);
        switch (item.get(0)) {
            case "man":
                told.man[0] = number;
                told.man[1] = item.contains("back") ? 0 : 1;
                break;
            case "tray":
                told.man[2] = number;
                break;
            case "crack":
                told.man[4] = number;
                break;
            default:
                told.families[number][0] = NAMES.indexOf(item.get(0));
                if (item.contains("mood")) {
                    told.families[number][1] = number(item, item.indexOf("mood") + 1);
                }
                if (item.contains("pence")) {
                    told.families[number][2] = number(item, item.indexOf("pence") + 1);
                }
        }
    }

    private static int number(List<String> item, int i) {
        return Integer.parseInt(item.get(i).replaceFirst("^0+(?=[0-9])", ""));
    }

    // ---- promises 30 to 35

    private Object there(int s) {
        within(s, 0, 3);
        if (sheets[s] == null) {
            throw new Finding(Due.MISSING);
        }
        return sheets[s];
    }

    private static int size(Object sheet) {
        return java.lang.reflect.Array.getLength(sheet);
    }

    private static long get(Object sheet, int i) {
        return java.lang.reflect.Array.getLong(sheet, i);
    }

    private static void put(Object sheet, int i, long v) {
        if (sheet instanceof byte[] bytes) {
            bytes[i] = (byte) v;
        } else if (sheet instanceof short[] shorts) {
            shorts[i] = (short) v;
        } else {
            ((long[]) sheet)[i] = v;
        }
    }

    private long write(int s, int i, long v) {
        Object sheet = there(s);
        within(i, 0, size(sheet) - 1);
        long was = get(sheet, i);
        put(sheet, i, v);
        return was;
    }

    private int sheets(String call, int[] a) {
        switch (call) {
            case "sheet":
                return sheet(a[0], a[1], a[2]);
            case "copy":
                return copy(a);
            case "lays":
                return lays(there(a[0]));
            case "book":
                Object book = there(a[0]);
                for (int i = 0; i < size(book); i++) {
                    put(book, i, street.after(i).man[3]);
                }
                return size(book);
            default:
                Object sheet = there(a[0]);
                within(a[1], 0, 7);
                return read(sheet, a[1]);
        }
    }

    private int sheet(int s, int bits, int n) {
        within(s, 0, 3);
        if (!List.of(0, 8, 16, 64).contains(bits)) {
            throw new Finding(Due.BEYOND);
        }
        if (n < 0) {
            throw new Finding(Due.SIZE);
        }
        within(n, 0, 40);
        sheets[s] = bits == 0 ? null : bits == 8 ? new byte[n] : bits == 16 ? new short[n] : new long[n];
        return bits == 0 ? 0 : n;
    }

    private int copy(int[] a) {
        within(a[0], 0, 3);
        within(a[2], 0, 3);
        Object from = there(a[0]);
        Object to = there(a[2]);
        if (from.getClass() != to.getClass()) {
            throw new Finding(Due.KIND);
        }
        boolean fits = (long) a[1] + a[4] <= size(from) && (long) a[3] + a[4] <= size(to);
        if (!fits || a[1] < 0 || a[3] < 0 || a[4] < 0) {
            throw new Finding(Due.BEYOND);
        }
        List<Long> all = new ArrayList<>();
        for (int i = 0; i < a[4]; i++) {
            all.add(get(from, a[1] + i));
        }
        for (int i = 0; i < a[4]; i++) {
            put(to, a[3] + i, all.get(i));
        }
        return a[4];
    }

    private int lays(Object sheet) {
        int came = 0;
        for (int i = 0; i < size(sheet); i++) {
            long v = get(sheet, i);
            if (i < 8 && v >= 0 && v <= 20) {
                street.families[i][1] = (int) v;
                came++;
            }
        }
        return came;
    }

    private int read(Object sheet, int house) {
        int pairs = 0;
        for (int pair = 0; pair < 6 * 21; pair++) {
            Street s = street.copy();
            s.families[house][0] = pair / 21;
            s.families[house][1] = pair % 21;
            boolean so = true;
            for (int i = 0; i < size(sheet) && so; i++) {
                so = s.man[3] == get(sheet, i);
                s = s.after(1);
            }
            pairs += so ? 1 : 0;
        }
        return pairs;
    }

    // ---- promises 36 to 40

    private int images(String call, int[] a) {
        switch (call) {
            case "image":
                kept = street.copy();
                return 1;
            case "undo":
                if (kept == null) {
                    throw new Finding(Due.NONE);
                }
                street = kept.copy();
                return street.hour;
            case "tear":
                boolean was = kept != null;
                kept = null;
                return was ? 1 : 0;
            case "count":
                within(a[0], 0, 3);
                int others = (int) Arrays.stream(street.families).filter(family -> family[0] != 0).count();
                return new int[] {others, tape.length(), street.all(1), street.all(3)}[a[0]];
            case "status":
                within(a[0], -1, 6);
                return a[0] == -1 ? Arrays.stream(findings).sum() : findings[a[0]];
            default:
                throw new IllegalStateException("no call " + call);
        }
    }
}
