import java.util.Arrays;

/** A terrace of houses with moods and pence, and a man who goes along it with a bell and a tray of muffins. */
public final class MuffinBells {
    private static final int BEYOND = -1000000001;
    private static final int FULL = -1000000002;
    private static final int KIND = -1000000003;
    private static final int NONE = -1000000004;
    private static final int STATE = -1000000005;
    private static final int MISSING = -1000000006;
    private static final int SIZE = -1000000007;
    private static final int FINDINGS = 7;

    private static final int HOUSES = 8;
    private static final int TONES = 7;
    private static final int MOST_MOOD = 20;
    private static final int MOST_PENCE = 999;
    private static final int MOST_ATE = 9999;
    private static final int MOST_TRAY = 999;
    private static final int MOST_CRACK = 99;
    private static final int MOST_TAKINGS = 99999;
    private static final int LAST_HOUR = 99999;
    private static final int NO_TONE = -1;
    private static final int MUFFIN_PENCE = 2;

    private static final int MOST_HOURS_GONE = 100;
    private static final int MOST_HOURS_ON = 200;
    private static final int MOST_HOURS_WEIGHED = 60;
    private static final int MOST_TRAY_WEIGHED = 199;

    private static final int SHEETS = 4;
    private static final int SHEET_LENGTH = 40;
    private static final int TAPE_LENGTH = 120;

    private final Terrace present;
    /** Every question of what would be is asked of this one, so that no call has to make an object. */
    private final Terrace trial;
    private final Terrace kept;
    private boolean isKept;
    private final Tape tape;
    private final TerraceText text;
    private final Sheet[] sheets;
    private final int[] findings;

    public MuffinBells() {
        present = new Terrace();
        trial = new Terrace();
        kept = new Terrace();
        isKept = false;
        tape = new Tape();
        text = new TerraceText(tape);
        sheets = new Sheet[SHEETS];
        for (int s = 0; s < SHEETS; s++) {
            sheets[s] = new Sheet();
        }
        findings = new int[FINDINGS];
    }

    // ---- the man

    public int man(int what, int v) {
        switch (what) {
            case 0:
                return isHouse(v) ? present.putMan(v) : finding(BEYOND);
            case 1:
                return isWithin(v, 0, 1) ? present.putWay(v) : finding(BEYOND);
            case 2:
                return isWithin(v, 0, MOST_TRAY) ? present.putTray(v) : finding(BEYOND);
            case 3:
                return v == NO_TONE || isTone(v) ? present.putRang(v) : finding(BEYOND);
            case 4:
                return isWithin(v, 0, MOST_CRACK) ? present.putCrack(v) : finding(BEYOND);
            default:
                return finding(BEYOND);
        }
    }

    public int now(int what) {
        switch (what) {
            case 0:
                return present.hour;
            case 1:
                return present.at;
            case 2:
                return present.way;
            case 3:
                return present.tray;
            case 4:
                return present.rang;
            case 5:
                return present.crack;
            case 6:
                return present.takings;
            case 7:
                return present.isResting() ? 1 : 0;
            default:
                return finding(BEYOND);
        }
    }

    // ---- houses

    public int of(int house, int what) {
        if (!isHouse(house)) {
            return finding(BEYOND);
        }
        switch (what) {
            case 0:
                return present.kinds[house];
            case 1:
                return present.moods[house];
            case 2:
                return present.pence[house];
            case 3:
                return present.ate[house];
            case 4:
                return present.toneAt(house);
            default:
                return finding(BEYOND);
        }
    }

    public int minds(int house, int tone) {
        if (!isHouse(house) || !isTone(tone)) {
            return finding(BEYOND);
        }
        return 100 + present.mindingAt(house, tone);
    }

    public int buys(int house, int tone) {
        if (!isHouse(house) || !isTone(tone)) {
            return finding(BEYOND);
        }
        return present.buyingAt(house, tone);
    }

    public int set(int house, int what, int v) {
        if (!isHouse(house)) {
            return finding(BEYOND);
        }
        switch (what) {
            case 1:
                return isWithin(v, 0, MOST_MOOD) ? exchange(present.moods, house, v) : finding(BEYOND);
            case 2:
                return isWithin(v, 0, MOST_PENCE) ? exchange(present.pence, house, v) : finding(BEYOND);
            case 3:
                return isWithin(v, 0, MOST_ATE) ? exchange(present.ate, house, v) : finding(BEYOND);
            default:
                return finding(BEYOND);
        }
    }

    public int turn(int house, int kind) {
        if (!isHouse(house) || !Kinds.isKind(kind)) {
            return finding(BEYOND);
        }
        return exchange(present.kinds, house, kind);
    }

    public int as(int house, int kind) {
        if (!isHouse(house) || !Kinds.isKind(kind)) {
            return finding(BEYOND);
        }
        if (!Kinds.isOneOf(present.kinds[house], kind)) {
            return finding(KIND);
        }
        return present.moods[house];
    }

    public int move(int house, int other) {
        if (!isHouse(house) || !isHouse(other) || house == other) {
            return finding(BEYOND);
        }
        present.changeFamilies(house, other);
        return 1;
    }

    // ---- hours

    public int hours(int n) {
        if (!isWithin(n, 1, MOST_HOURS_GONE)) {
            return finding(BEYOND);
        }
        if (present.hour > LAST_HOUR - n) {
            return finding(STATE);
        }
        present.goHours(n);
        return present.takings;
    }

    public int on(int house, int n, int what) {
        if (!isHouse(house) || !isHoursOn(n) || !isWithin(what, 0, 1)) {
            return finding(BEYOND);
        }
        goOn(n);
        return what == 0 ? trial.moods[house] : trial.ate[house];
    }

    public int rang(int n) {
        if (!isHoursOn(n)) {
            return finding(BEYOND);
        }
        goOn(n);
        return trial.rang;
    }

    public int takings(int n) {
        if (!isHoursOn(n)) {
            return finding(BEYOND);
        }
        goOn(n);
        return trial.takings;
    }

    public int moods(int n) {
        if (!isHoursOn(n)) {
            return finding(BEYOND);
        }
        goOn(n);
        return sum(trial.moods);
    }

    public int empty() {
        trial.become(present);
        for (int n = 0; n <= MOST_HOURS_ON; n++) {
            if (trial.tray == 0) {
                return n;
            }
            trial.goHour();
        }
        return finding(NONE);
    }

    public int comes(int house) {
        if (!isHouse(house)) {
            return finding(BEYOND);
        }
        trial.become(present);
        for (int n = 0; n <= MOST_HOURS_ON; n++) {
            if (trial.at == house) {
                return n;
            }
            trial.goHour();
        }
        return finding(NONE);
    }

    public int when(int tone) {
        if (!isTone(tone)) {
            return finding(BEYOND);
        }
        trial.become(present);
        for (int n = 0; n <= MOST_HOURS_ON; n++) {
            if (trial.rang == tone) {
                return n;
            }
            trial.goHour();
        }
        return finding(NONE);
    }

    // ---- what is best

    public int begin(int n) {
        if (!isHoursWeighed(n)) {
            return finding(BEYOND);
        }
        int best = 0;
        int most = -1;
        for (int house = 0; house < HOUSES; house++) {
            trial.become(present);
            trial.at = house;
            trial.goHours(n);
            if (trial.takings > most) {
                most = trial.takings;
                best = house;
            }
        }
        return best;
    }

    public int way(int n) {
        if (!isHoursWeighed(n)) {
            return finding(BEYOND);
        }
        return moodsGoing(1, n) > moodsGoing(0, n) ? 1 : 0;
    }

    public int mood(int house, int n) {
        if (!isHouse(house) || !isHoursWeighed(n)) {
            return finding(BEYOND);
        }
        int best = 0;
        int most = -1;
        for (int mood = 0; mood <= MOST_MOOD; mood++) {
            trial.become(present);
            trial.moods[house] = mood;
            trial.goHours(n);
            if (trial.takings > most) {
                most = trial.takings;
                best = mood;
            }
        }
        return best;
    }

    public int kind(int house, int n) {
        if (!isHouse(house) || !isHoursWeighed(n)) {
            return finding(BEYOND);
        }
        int best = 0;
        int most = -1;
        for (int kind = 0; kind < Kinds.COUNT; kind++) {
            trial.become(present);
            trial.kinds[house] = kind;
            trial.goHours(n);
            if (trial.ate[house] > most) {
                most = trial.ate[house];
                best = kind;
            }
        }
        return best;
    }

    public int enough(int n) {
        if (!isHoursWeighed(n)) {
            return finding(BEYOND);
        }
        for (int tray = 0; tray <= MOST_TRAY_WEIGHED; tray++) {
            trial.become(present);
            trial.tray = tray;
            trial.goHours(n);
            // A tray is never filled on the way: what is there at the end was there all along.
            if (trial.tray > 0) {
                return tray;
            }
        }
        return finding(NONE);
    }

    public int bears(int n, int v) {
        if (!isHoursWeighed(n) || !isWithin(v, 0, MOST_TAKINGS)) {
            return finding(BEYOND);
        }
        for (int crack = MOST_CRACK; crack >= 0; crack--) {
            trial.become(present);
            trial.crack = crack;
            trial.goHours(n);
            if (trial.takings >= v) {
                return crack;
            }
        }
        return finding(NONE);
    }

    public int swap(int n) {
        if (!isHoursWeighed(n)) {
            return finding(BEYOND);
        }
        goOn(n);
        int most = sum(trial.moods);
        int best = -1;
        for (int house = 0; house < HOUSES; house++) {
            for (int other = house + 1; other < HOUSES; other++) {
                int moods = moodsSwapped(house, other, n);
                if (moods > most) {
                    most = moods;
                    best = 10 * house + other;
                }
            }
        }
        return best < 0 ? finding(NONE) : best;
    }

    public int saddest(int n) {
        if (!isHoursOn(n)) {
            return finding(BEYOND);
        }
        goOn(n);
        int saddest = 0;
        for (int house = 1; house < HOUSES; house++) {
            if (trial.moods[house] < trial.moods[saddest]) {
                saddest = house;
            }
        }
        return saddest;
    }

    // ---- the text

    public int feed(int bytes, int n) {
        if (!isWithin(n, 1, 4)) {
            return finding(BEYOND);
        }
        if (tape.length + n > TAPE_LENGTH) {
            return finding(FULL);
        }
        tape.take(bytes, n);
        return tape.length;
    }

    public int wipe() {
        int had = tape.length;
        tape.length = 0;
        return had;
    }

    public int terrace() {
        trial.become(present);
        int items = text.tellTo(trial);
        tape.length = 0;
        if (items >= 0) {
            present.become(trial);
        }
        return items;
    }

    // ---- sheets

    public int sheet(int s, int bits, int n) {
        if (!isSheet(s) || !isBits(bits)) {
            return finding(BEYOND);
        }
        if (n < 0) {
            return finding(SIZE);
        }
        if (n > SHEET_LENGTH) {
            return finding(BEYOND);
        }
        sheets[s].lay(bits, n);
        return sheets[s].size;
    }

    public long write(int s, int i, long v) {
        if (!isSheet(s)) {
            return finding(BEYOND);
        }
        Sheet sheet = sheets[s];
        if (sheet.isMissing()) {
            return finding(MISSING);
        }
        if (i < 0 || i >= sheet.size) {
            return finding(BEYOND);
        }
        long was = sheet.numbers[i];
        sheet.put(i, v);
        return was;
    }

    public int copy(int s, int from, int t, int to, int n) {
        if (!isSheet(s) || !isSheet(t)) {
            return finding(BEYOND);
        }
        Sheet source = sheets[s];
        Sheet target = sheets[t];
        if (source.isMissing() || target.isMissing()) {
            return finding(MISSING);
        }
        if (source.bits != target.bits) {
            return finding(KIND);
        }
        if (!source.hasSpan(from, n) || !target.hasSpan(to, n)) {
            return finding(BEYOND);
        }
        System.arraycopy(source.numbers, from, target.numbers, to, n);
        return n;
    }

    public int lays(int s) {
        if (!isSheet(s)) {
            return finding(BEYOND);
        }
        Sheet sheet = sheets[s];
        if (sheet.isMissing()) {
            return finding(MISSING);
        }
        int came = 0;
        for (int house = 0; house < HOUSES && house < sheet.size; house++) {
            long number = sheet.numbers[house];
            if (number >= 0 && number <= MOST_MOOD) {
                present.moods[house] = (int) number;
                came++;
            }
        }
        return came;
    }

    public int book(int s) {
        if (!isSheet(s)) {
            return finding(BEYOND);
        }
        Sheet sheet = sheets[s];
        if (sheet.isMissing()) {
            return finding(MISSING);
        }
        trial.become(present);
        for (int i = 0; i < sheet.size; i++) {
            sheet.put(i, trial.rang);
            trial.goHour();
        }
        return sheet.size;
    }

    public int read(int s, int house) {
        if (!isSheet(s)) {
            return finding(BEYOND);
        }
        Sheet sheet = sheets[s];
        if (sheet.isMissing()) {
            return finding(MISSING);
        }
        if (!isHouse(house)) {
            return finding(BEYOND);
        }
        int pairs = 0;
        for (int kind = 0; kind < Kinds.COUNT; kind++) {
            for (int mood = 0; mood <= MOST_MOOD; mood++) {
                trial.become(present);
                trial.kinds[house] = kind;
                trial.moods[house] = mood;
                if (trialRingsAs(sheet)) {
                    pairs++;
                }
            }
        }
        return pairs;
    }

    // ---- images

    public int image() {
        kept.become(present);
        isKept = true;
        return 1;
    }

    public int undo() {
        if (!isKept) {
            return finding(NONE);
        }
        present.become(kept);
        return present.hour;
    }

    public int tear() {
        int was = isKept ? 1 : 0;
        isKept = false;
        return was;
    }

    public int count(int what) {
        switch (what) {
            case 0:
                return present.housesOfOtherKinds();
            case 1:
                return tape.length;
            case 2:
                return sum(present.moods);
            case 3:
                return sum(present.ate);
            default:
                return finding(BEYOND);
        }
    }

    public int status(int which) {
        if (which == -1) {
            return sum(findings);
        }
        if (!isWithin(which, 0, FINDINGS - 1)) {
            return finding(BEYOND);
        }
        return findings[which];
    }

    // ---- what the calls share

    private int finding(int finding) {
        int which = BEYOND - finding;
        if (isWithin(which, 0, FINDINGS - 1)) {
            findings[which]++;
        }
        return finding;
    }

    private void goOn(int n) {
        trial.become(present);
        trial.goHours(n);
    }

    private int moodsGoing(int way, int n) {
        trial.become(present);
        trial.way = way;
        trial.goHours(n);
        return sum(trial.moods);
    }

    private int moodsSwapped(int house, int other, int n) {
        trial.become(present);
        trial.changeFamilies(house, other);
        trial.goHours(n);
        return sum(trial.moods);
    }

    private boolean trialRingsAs(Sheet sheet) {
        for (int i = 0; i < sheet.size; i++) {
            if (sheet.numbers[i] != trial.rang) {
                return false;
            }
            trial.goHour();
        }
        return true;
    }

    private static boolean isWithin(int v, int least, int most) {
        return v >= least && v <= most;
    }

    private static boolean isHouse(int house) {
        return isWithin(house, 0, HOUSES - 1);
    }

    private static boolean isTone(int tone) {
        return isWithin(tone, 0, TONES - 1);
    }

    private static boolean isHoursOn(int n) {
        return isWithin(n, 0, MOST_HOURS_ON);
    }

    private static boolean isHoursWeighed(int n) {
        return isWithin(n, 1, MOST_HOURS_WEIGHED);
    }

    private static boolean isSheet(int s) {
        return isWithin(s, 0, SHEETS - 1);
    }

    private static boolean isBits(int bits) {
        return bits == Sheet.NO_BITS || bits == 8 || bits == 16 || bits == 64;
    }

    /** The row's number at a place that the caller has looked at becomes v: what it was. */
    private static int exchange(int[] row, int place, int v) {
        int was = row[place];
        row[place] = v;
        return was;
    }

    private static int sum(int[] row) {
        int sum = 0;
        for (int v : row) {
            sum += v;
        }
        return sum;
    }

    private static int held(int v, int least, int most) {
        return Math.max(least, Math.min(most, v));
    }

    /** What a house does by its KIND; where a KIND has no word of its own, the KIND above it speaks. */
    private static final class Kinds {
        static final int HOUSE = 0;
        static final int GAY = 1;
        static final int GRAVE = 2;
        static final int CHOIR = 3;
        static final int WALTZ = 4;
        static final int LENT = 5;
        static final int COUNT = 6;
        static final int NO_KIND = -1;

        private static final int HIGHEST_TONE = 6;
        private static final int CHOIR_TONE = 3;
        private static final int LENT_MOOD = 12;

        static boolean isKind(int kind) {
            return isWithin(kind, 0, COUNT - 1);
        }

        static int above(int kind) {
            switch (kind) {
                case GAY:
                case GRAVE:
                case CHOIR:
                    return HOUSE;
                case WALTZ:
                    return GAY;
                case LENT:
                    return GRAVE;
                default:
                    return NO_KIND;
            }
        }

        static boolean isOneOf(int kind, int wanted) {
            int k = kind;
            for (int step = 0; step < COUNT && k != NO_KIND; step++) {
                if (k == wanted) {
                    return true;
                }
                k = above(k);
            }
            return false;
        }

        static int tone(int kind, int mood, int hour) {
            int plain = mood / 3;
            int gay = plain < HIGHEST_TONE ? plain + 1 : HIGHEST_TONE;
            int grave = plain > 2 ? plain - 2 : 0;
            switch (kind) {
                case GAY:
                    return gay;
                case GRAVE:
                    return grave;
                case CHOIR:
                    return CHOIR_TONE;
                case WALTZ:
                    return hour % 3 == 1 ? 0 : gay;
                case LENT:
                    return mood < LENT_MOOD ? 0 : grave;
                default:
                    return plain;
            }
        }

        static int minding(int kind, int heard, int own) {
            int plain = heard > own ? 1 : heard < own ? -1 : 0;
            int gay = heard > 3 ? plain + 1 : plain;
            switch (kind) {
                case GAY:
                    return gay;
                case GRAVE:
                    return -1;
                case CHOIR:
                    return heard % 2 == 1 ? -2 : 1;
                case WALTZ:
                    return 2 * gay;
                case LENT:
                    return heard == 0 ? 0 : -1;
                default:
                    return plain;
            }
        }

        /** How many it would have, whatever it can pay. */
        static int wanting(int kind, int heard) {
            int plain = 1;
            int gay = heard > 4 ? plain + 1 : plain;
            int grave = heard < 2 ? 3 : plain;
            switch (kind) {
                case GAY:
                    return gay;
                case GRAVE:
                    return grave;
                case CHOIR:
                    return heard % 2 == 1 ? 0 : plain;
                case WALTZ:
                    return gay + 1;
                case LENT:
                    return 2 * grave;
                default:
                    return plain;
            }
        }
    }

    /** All that section 1 of the document tells, but for THE TAPE. */
    private static final class Terrace {
        private static final int REST_EVERY = 5;
        private static final int REST_AT = 4;
        private static final int CRACKED = 50;
        private static final int CRACKED_TONE = 3;

        int hour;
        /** Always 0 to 7: whoever puts the man somewhere has looked at the number first. */
        int at;
        int way;
        int tray;
        int rang;
        int crack;
        int takings;
        final int[] kinds;
        final int[] moods;
        final int[] pence;
        final int[] ate;

        Terrace() {
            hour = 0;
            at = 0;
            way = 1;
            tray = 40;
            rang = NO_TONE;
            crack = 0;
            takings = 0;
            kinds = new int[HOUSES];
            moods = new int[HOUSES];
            pence = new int[HOUSES];
            ate = new int[HOUSES];
            Arrays.fill(moods, 10);
            Arrays.fill(pence, 30);
        }

        void become(Terrace other) {
            hour = other.hour;
            at = other.at;
            way = other.way;
            tray = other.tray;
            rang = other.rang;
            crack = other.crack;
            takings = other.takings;
            System.arraycopy(other.kinds, 0, kinds, 0, HOUSES);
            System.arraycopy(other.moods, 0, moods, 0, HOUSES);
            System.arraycopy(other.pence, 0, pence, 0, HOUSES);
            System.arraycopy(other.ate, 0, ate, 0, HOUSES);
        }

        int putMan(int house) {
            int was = at;
            at = house;
            return was;
        }

        int putWay(int v) {
            int was = way;
            way = v;
            return was;
        }

        int putTray(int v) {
            int was = tray;
            tray = v;
            return was;
        }

        int putRang(int v) {
            int was = rang;
            rang = v;
            return was;
        }

        int putCrack(int v) {
            int was = crack;
            crack = v;
            return was;
        }

        boolean isResting() {
            return hour % REST_EVERY == REST_AT;
        }

        int toneAt(int house) {
            return Kinds.tone(kinds[house], moods[house], hour);
        }

        int mindingAt(int house, int heard) {
            int own = Kinds.tone(kinds[house], moods[house], hour);
            return Kinds.minding(kinds[house], heard, own);
        }

        int buyingAt(int house, int heard) {
            int wanted = Kinds.wanting(kinds[house], heard);
            return Math.min(wanted, Math.min(pence[house] / MUFFIN_PENCE, tray));
        }

        void changeFamilies(int house, int other) {
            kinds[house] = exchange(kinds, other, kinds[house]);
            moods[house] = exchange(moods, other, moods[house]);
            pence[house] = exchange(pence, other, pence[house]);
            ate[house] = exchange(ate, other, ate[house]);
        }

        int housesOfOtherKinds() {
            int others = 0;
            for (int kind : kinds) {
                if (kind != Kinds.HOUSE) {
                    others++;
                }
            }
            return others;
        }

        void goHours(int n) {
            for (int i = 0; i < n; i++) {
                goHour();
            }
        }

        void goHour() {
            if (!isResting()) {
                if (rang != NO_TONE) {
                    hearAndBuy();
                }
                listen();
                walk();
            }
            hour++;
        }

        private void hearAndBuy() {
            moods[at] = held(moods[at] + mindingAt(at, rang), 0, MOST_MOOD);
            int muffins = buyingAt(at, rang);
            int price = MUFFIN_PENCE * muffins;
            tray -= muffins;
            pence[at] -= price;
            ate[at] = Math.min(MOST_ATE, ate[at] + muffins);
            takings = Math.min(MOST_TAKINGS, takings + price);
        }

        private void listen() {
            rang = crack >= CRACKED ? CRACKED_TONE : toneAt(at);
            crack = Math.min(MOST_CRACK, crack + 1);
        }

        private void walk() {
            int step = way == 1 ? 1 : HOUSES - 1;
            at = (at + step) % HOUSES;
        }
    }

    /** A row of numbers; those of 8 and of 16 bits are held with their sign, as Java's byte and short are. */
    private static final class Sheet {
        static final int NO_BITS = 0;

        int bits;
        int size;
        final long[] numbers;

        Sheet() {
            bits = NO_BITS;
            size = 0;
            numbers = new long[SHEET_LENGTH];
        }

        boolean isMissing() {
            return bits == NO_BITS;
        }

        void lay(int newBits, int n) {
            bits = newBits;
            size = newBits == NO_BITS ? 0 : n;
            Arrays.fill(numbers, 0L);
        }

        void put(int i, long v) {
            if (bits == 8) {
                numbers[i] = (byte) v;
            } else if (bits == 16) {
                numbers[i] = (short) v;
            } else {
                numbers[i] = v;
            }
        }

        /** The places are weighed by taking away, since their sum might go round. */
        boolean hasSpan(int from, int n) {
            return n >= 0 && n <= size && from >= 0 && from <= size - n;
        }
    }

    private static final class Tape {
        final int[] bytes;
        int length;

        Tape() {
            bytes = new int[TAPE_LENGTH];
            length = 0;
        }

        void take(int number, int n) {
            for (int shift = 8 * (n - 1); shift >= 0; shift -= 8) {
                bytes[length] = (number >> shift) & 255;
                length++;
            }
        }
    }

    /** Reads THE TEXT of a TERRACE; one token is looked at, and where it can't stand, its start is the FAULT. */
    private static final class TerraceText {
        private static final int END = 0;
        private static final int WORD = 1;
        private static final int NUMBER = 2;
        private static final int SEMICOLON = 3;
        private static final int OTHER = 4;

        private final Tape tape;
        private int sort;
        private int start;
        private int end;
        private int number;

        TerraceText(Tape tape) {
            this.tape = tape;
            sort = END;
            start = 0;
            end = 0;
            number = 0;
        }

        /** How many items there are, or -1 less the place of the FAULT (the terrace is half told then). */
        int tellTo(Terrace told) {
            end = 0;
            advance();
            for (int items = 1; items <= TAPE_LENGTH; items++) {
                if (!isItemTold(told)) {
                    return -1 - start;
                }
                if (sort == END) {
                    return items;
                }
                if (sort != SEMICOLON) {
                    return -1 - start;
                }
                advance();
            }
            return -1 - start;
        }

        private boolean isItemTold(Terrace told) {
            int kind = kindNamed();
            if (kind != Kinds.NO_KIND) {
                return isHouseTold(told, kind);
            }
            if (isWord("man")) {
                return isManTold(told);
            }
            if (isWord("tray")) {
                return isTrayTold(told);
            }
            return isWord("crack") && isCrackTold(told);
        }

        private boolean isHouseTold(Terrace told, int kind) {
            if (!isNumberNext(HOUSES - 1)) {
                return false;
            }
            int house = number;
            told.kinds[house] = kind;
            if (isWord("mood")) {
                if (!isNumberNext(MOST_MOOD)) {
                    return false;
                }
                told.moods[house] = number;
            }
            if (isWord("pence")) {
                if (!isNumberNext(MOST_PENCE)) {
                    return false;
                }
                told.pence[house] = number;
            }
            return true;
        }

        private boolean isManTold(Terrace told) {
            if (!isNumberNext(HOUSES - 1)) {
                return false;
            }
            told.at = number;
            told.way = 1;
            if (isWord("back")) {
                told.way = 0;
                advance();
            }
            return true;
        }

        private boolean isTrayTold(Terrace told) {
            if (!isNumberNext(MOST_TRAY)) {
                return false;
            }
            told.tray = number;
            return true;
        }

        private boolean isCrackTold(Terrace told) {
            if (!isNumberNext(MOST_CRACK)) {
                return false;
            }
            told.crack = number;
            return true;
        }

        private int kindNamed() {
            for (int kind = 0; kind < Kinds.COUNT; kind++) {
                if (isWord(nameOf(kind))) {
                    return kind;
                }
            }
            return Kinds.NO_KIND;
        }

        private static String nameOf(int kind) {
            switch (kind) {
                case Kinds.GAY:
                    return "gay";
                case Kinds.GRAVE:
                    return "grave";
                case Kinds.CHOIR:
                    return "choir";
                case Kinds.WALTZ:
                    return "waltz";
                case Kinds.LENT:
                    return "lent";
                default:
                    return "house";
            }
        }

        private boolean isWord(String word) {
            if (sort != WORD || end - start != word.length()) {
                return false;
            }
            for (int i = 0; i < word.length(); i++) {
                if (tape.bytes[start + i] != word.charAt(i)) {
                    return false;
                }
            }
            return true;
        }

        /** Goes to the next token and, if that is such a number, behind it; if not, it stays there as the FAULT. */
        private boolean isNumberNext(int most) {
            advance();
            if (sort != NUMBER) {
                return false;
            }
            number = 0;
            for (int place = start; place < end; place++) {
                number = 10 * number + tape.bytes[place] - '0';
                // Asked at each digit, so that a long row of them can't go round to a number that may be.
                if (number > most) {
                    return false;
                }
            }
            advance();
            return true;
        }

        private void advance() {
            start = placeBehind(end, ' ', ' ');
            int wordEnd = placeBehind(start, 'a', 'z');
            int numberEnd = placeBehind(start, '0', '9');
            if (start >= tape.length) {
                sort = END;
                end = start;
            } else if (wordEnd > start) {
                sort = WORD;
                end = wordEnd;
            } else if (numberEnd > start) {
                sort = NUMBER;
                end = numberEnd;
            } else {
                sort = tape.bytes[start] == ';' ? SEMICOLON : OTHER;
                end = start + 1;
            }
        }

        /** The first place, from one on, whose byte isn't from least to most. */
        private int placeBehind(int from, int least, int most) {
            int place = from;
            while (place < tape.length && tape.bytes[place] >= least && tape.bytes[place] <= most) {
                place++;
            }
            return place;
        }
    }
}
