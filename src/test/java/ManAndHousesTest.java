/** Promises 1 to 10. */
public final class ManAndHousesTest {
    private static final String[] TONES = {
        "000111222333444555666",
        "111222333444555666666",
        "000000000111222333444",
        "333333333333333333333",
        "111222333444555666666",
        "000000000000222333444",
    };
    private static final String[] BUYS = {"1111111", "1111122", "3311111", "1010101", "2222233", "6622222"};

    public static void main(String[] args) {
        newObject();
        man();
        manWrong();
        now();
        of();
        tones();
        minds();
        mindsByKind();
        buys();
        buysNoMore();
        set();
        turn();
        as();
        move();
        Due.end();
    }

    private static void newObject() {
        MuffinBells x = new MuffinBells();
        Due.same("new", Due.state(x), "0 0 1 40 -1 0 0 " + "0 10 30 0 ".repeat(8) + "0");
        Due.is("count(1) of a new object", x.count(1), 0);
        Due.is("tear() of a new object", x.tear(), 0);
        Due.is("undo() of a new object", x.undo(), Due.NONE);
        for (int s = 0; s < 4; s++) {
            Due.is("lays of a new object's sheet " + s, x.lays(s), Due.MISSING);
        }
    }

    private static void man() {
        MuffinBells x = new MuffinBells();
        int[] nowOf = {1, 2, 3, 4, 5};
        int[] atFirst = {0, 1, 40, -1, 0};
        int[] least = {0, 0, 0, -1, 0};
        int[] most = {7, 1, 999, 6, 99};
        for (int what = 0; what < 5; what++) {
            Due.is("man(" + what + ", most)", x.man(what, most[what]), atFirst[what]);
            Due.is("now after man(" + what + ", most)", x.now(nowOf[what]), most[what]);
            Due.is("man(" + what + ", least)", x.man(what, least[what]), most[what]);
            Due.is("now after man(" + what + ", least)", x.now(nowOf[what]), least[what]);
        }
        Due.same("man changes nothing else", Due.state(x), "0 0 0 0 -1 0 0 " + "0 10 30 0 ".repeat(8) + "0");
    }

    private static void manWrong() {
        MuffinBells x = new MuffinBells();
        String before = Due.state(x);
        int[] below = {-1, -1, -1, -2, -1};
        int[] above = {8, 2, 1000, 7, 100};
        int found = 0;
        for (int what = 0; what < 5; what++) {
            Due.is("man(" + what + ", below)", x.man(what, below[what]), Due.BEYOND);
            Due.is("man(" + what + ", above)", x.man(what, above[what]), Due.BEYOND);
            found += 2;
            for (int far : Due.FAR) {
                Due.is("man(" + what + ", " + far + ")", x.man(what, far), Due.BEYOND);
                found++;
            }
        }
        Due.is("man(-1, 0)", x.man(-1, 0), Due.BEYOND);
        Due.is("man(5, 0)", x.man(5, 0), Due.BEYOND);
        Due.same("man with a finding", Due.state(x), before);
        Due.is("status(0)", x.status(0), found + 2);
    }

    private static void now() {
        MuffinBells x = new MuffinBells();
        int[] rests = {0, 0, 0, 0, 1, 0, 0, 0, 0, 1, 0};
        for (int hour = 0; hour < rests.length; hour++) {
            Due.is("now(0)", x.now(0), hour);
            Due.is("now(7) in hour " + hour, x.now(7), rests[hour]);
            x.hours(1);
        }
        Due.is("now(-1)", x.now(-1), Due.BEYOND);
        Due.is("now(8)", x.now(8), Due.BEYOND);
    }

    private static void of() {
        MuffinBells x = new MuffinBells();
        x.turn(6, Due.GAY);
        x.set(6, 1, 15);
        x.set(6, 2, 77);
        x.set(6, 3, 8);
        int[] want = {1, 15, 77, 8, 6};
        int[] others = {0, 10, 30, 0, 3};
        for (int what = 0; what < 5; what++) {
            Due.is("of(6, " + what + ")", x.of(6, what), want[what]);
            Due.is("of(5, " + what + ")", x.of(5, what), others[what]);
            Due.is("of(7, " + what + ")", x.of(7, what), others[what]);
            Due.is("of(-1, " + what + ")", x.of(-1, what), Due.BEYOND);
            Due.is("of(8, " + what + ")", x.of(8, what), Due.BEYOND);
        }
        Due.is("of(0, -1)", x.of(0, -1), Due.BEYOND);
        Due.is("of(0, 5)", x.of(0, 5), Due.BEYOND);
    }

    private static void tones() {
        for (int hour = 0; hour < 7; hour++) {
            MuffinBells x = new MuffinBells();
            if (hour > 0) {
                x.hours(hour);
            }
            for (int kind = 0; kind < 6; kind++) {
                x.turn(3, kind);
                for (int mood = 0; mood <= 20; mood++) {
                    x.set(3, 1, mood);
                    boolean still = kind == Due.WALTZ && (hour == 1 || hour == 4);
                    int want = still ? 0 : TONES[kind].charAt(mood) - '0';
                    Due.is("tone of kind " + kind + ", mood " + mood + ", hour " + hour, x.of(3, 4), want);
                }
            }
        }
    }

    private static void minds() {
        MuffinBells x = new MuffinBells();
        mindsRow(x, Due.HOUSE, 10, 99, 99, 99, 100, 101, 101, 101);
        mindsRow(x, Due.GAY, 10, 99, 99, 99, 99, 101, 102, 102);
        mindsRow(x, Due.GAY, 20, 99, 99, 99, 99, 100, 100, 101);
        mindsRow(x, Due.GAY, 0, 99, 100, 101, 101, 102, 102, 102);
        mindsRow(x, Due.GRAVE, 10, 99, 99, 99, 99, 99, 99, 99);
        mindsRow(x, Due.CHOIR, 10, 101, 98, 101, 98, 101, 98, 101);
        mindsRow(x, Due.WALTZ, 10, 98, 98, 98, 98, 102, 104, 104);
        mindsRow(x, Due.LENT, 10, 100, 99, 99, 99, 99, 99, 99);
        mindsRow(x, Due.LENT, 20, 100, 99, 99, 99, 99, 99, 99);
        x.hours(1);
        mindsRow(x, Due.WALTZ, 10, 100, 102, 102, 102, 104, 104, 104);
        int[] wrong = {-1, 7, Integer.MIN_VALUE, Integer.MAX_VALUE};
        for (int tone : wrong) {
            Due.is("minds(0, " + tone + ")", x.minds(0, tone), Due.BEYOND);
        }
        Due.is("minds(-1, 0)", x.minds(-1, 0), Due.BEYOND);
        Due.is("minds(8, 0)", x.minds(8, 0), Due.BEYOND);
    }

    private static void mindsRow(MuffinBells x, int kind, int mood, int... want) {
        x.turn(2, kind);
        x.set(2, 1, mood);
        String before = Due.state(x);
        for (int tone = 0; tone < 7; tone++) {
            Due.is("minds(2, " + tone + ") of kind " + kind + ", mood " + mood, x.minds(2, tone), want[tone]);
        }
        Due.same("minds changes nothing", Due.state(x), before);
    }

    private static void mindsByKind() {
        for (int kind = 0; kind < 6; kind++) {
            MuffinBells x = new MuffinBells();
            x.turn(0, kind);
            for (int mood = 0; mood <= 20; mood++) {
                x.set(0, 1, mood);
                int own = TONES[kind].charAt(mood) - '0';
                for (int tone = 0; tone < 7; tone++) {
                    int plain = Integer.signum(tone - own);
                    int gay = plain + (tone >= 4 ? 1 : 0);
                    int choir = tone == 1 || tone == 3 || tone == 5 ? -2 : 1;
                    int[] want = {plain, gay, -1, choir, gay + gay, tone > 0 ? -1 : 0};
                    Due.is("minds of kind " + kind + ", mood " + mood + ", tone " + tone,
                        x.minds(0, tone), 100 + want[kind]);
                }
            }
        }
    }

    private static void buys() {
        MuffinBells x = new MuffinBells();
        for (int kind = 0; kind < 6; kind++) {
            x.turn(4, kind);
            for (int tone = 0; tone < 7; tone++) {
                Due.is("buys of kind " + kind + ", tone " + tone, x.buys(4, tone), BUYS[kind].charAt(tone) - '0');
            }
        }
        Due.is("buys(0, -1)", x.buys(0, -1), Due.BEYOND);
        Due.is("buys(0, 7)", x.buys(0, 7), Due.BEYOND);
        Due.is("buys(-1, 0)", x.buys(-1, 0), Due.BEYOND);
        Due.is("buys(8, 0)", x.buys(8, 0), Due.BEYOND);
    }

    private static void buysNoMore() {
        MuffinBells x = new MuffinBells();
        x.turn(0, Due.LENT);
        int[] pence = {0, 1, 2, 3, 4, 9, 10, 11, 12, 13, 14, 999};
        int[] byPence = {0, 0, 1, 1, 2, 4, 5, 5, 6, 6, 6, 6};
        for (int i = 0; i < pence.length; i++) {
            x.set(0, 2, pence[i]);
            Due.is("buys with pence " + pence[i], x.buys(0, 0), byPence[i]);
        }
        for (int tray = 0; tray <= 8; tray++) {
            x.man(2, tray);
            Due.is("buys with tray " + tray, x.buys(0, 0), Math.min(6, tray));
        }
        x.man(2, 4);
        x.set(0, 2, 7);
        Due.is("buys by pence and tray", x.buys(0, 0), 3);
        Due.is("buys changes no tray", x.now(3), 4);
        Due.is("buys changes no pence", x.of(0, 2), 7);
    }

    private static void set() {
        MuffinBells x = new MuffinBells();
        int[] atFirst = {0, 10, 30, 0};
        int[] most = {0, 20, 999, 9999};
        for (int what = 1; what <= 3; what++) {
            Due.is("set(7, " + what + ", most)", x.set(7, what, most[what]), atFirst[what]);
            Due.is("of after set", x.of(7, what), most[what]);
            Due.is("set(7, " + what + ", 0)", x.set(7, what, 0), most[what]);
            Due.is("of after set", x.of(7, what), 0);
            Due.is("another house", x.of(6, what), atFirst[what]);
            String before = Due.state(x);
            Due.is("set above", x.set(7, what, most[what] + 1), Due.BEYOND);
            Due.is("set below", x.set(7, what, -1), Due.BEYOND);
            Due.is("set(8, ..)", x.set(8, what, 1), Due.BEYOND);
            Due.is("set(-1, ..)", x.set(-1, what, 1), Due.BEYOND);
            Due.same("set with a finding", Due.state(x), before);
        }
        Due.is("set(0, 0, 1)", x.set(0, 0, 1), Due.BEYOND);
        Due.is("set(0, 4, 1)", x.set(0, 4, 1), Due.BEYOND);
        Due.is("set(0, -1, 1)", x.set(0, -1, 1), Due.BEYOND);
    }

    private static void turn() {
        MuffinBells x = new MuffinBells();
        int was = 0;
        for (int kind = 5; kind >= 0; kind--) {
            Due.is("turn(3, " + kind + ")", x.turn(3, kind), was);
            Due.is("of(3, 0)", x.of(3, 0), kind);
            was = kind;
        }
        Due.is("turn to the same kind", x.turn(3, 0), 0);
        Due.is("turn(3, 6)", x.turn(3, 6), Due.BEYOND);
        Due.is("turn(3, -1)", x.turn(3, -1), Due.BEYOND);
        Due.is("turn(8, 1)", x.turn(8, 1), Due.BEYOND);
        Due.is("turn(-1, 1)", x.turn(-1, 1), Due.BEYOND);
        Due.same("turn changes the kind alone", Due.state(x), Due.state(new MuffinBells()));
    }

    private static void as() {
        MuffinBells x = new MuffinBells();
        x.set(2, 1, 13);
        String[] isOneOf = {"100000", "110000", "101000", "100100", "110010", "101001"};
        for (int kind = 0; kind < 6; kind++) {
            x.turn(2, kind);
            for (int asked = 0; asked < 6; asked++) {
                int want = isOneOf[kind].charAt(asked) == '1' ? 13 : Due.KIND;
                Due.is("as(2, " + asked + ") of kind " + kind, x.as(2, asked), want);
            }
        }
        Due.is("as(2, 6)", x.as(2, 6), Due.BEYOND);
        Due.is("as(2, -1)", x.as(2, -1), Due.BEYOND);
        Due.is("as(8, 0)", x.as(8, 0), Due.BEYOND);
        Due.is("as(-1, 1)", x.as(-1, 1), Due.BEYOND);
        Due.is("findings KIND", x.status(2), 36 - 13);
    }

    private static void move() {
        MuffinBells x = new MuffinBells();
        x.turn(1, Due.WALTZ);
        x.set(1, 1, 4);
        x.set(1, 2, 44);
        x.set(1, 3, 444);
        x.man(0, 1);
        x.turn(7, Due.LENT);
        Due.is("move(1, 7)", x.move(1, 7), 1);
        Due.same("move", Due.state(x), "0 1 1 40 -1 0 0 0 10 30 0 5 10 30 0 " + "0 10 30 0 ".repeat(5) + "4 4 44 444 0");
        Due.is("move(7, 1)", x.move(7, 1), 1);
        Due.is("kind back", x.of(1, 0), Due.WALTZ);
        String before = Due.state(x);
        Due.is("move(3, 3)", x.move(3, 3), Due.BEYOND);
        Due.is("move(8, 0)", x.move(8, 0), Due.BEYOND);
        Due.is("move(0, 8)", x.move(0, 8), Due.BEYOND);
        Due.is("move(-1, 0)", x.move(-1, 0), Due.BEYOND);
        Due.is("move(0, -1)", x.move(0, -1), Due.BEYOND);
        Due.same("move with a finding", Due.state(x), before);
    }
}
