/** The edges that promises 1 to 10 name. */
public final class EdgesOfManAndHousesTest {
    private static final int[] MOST_OF_MAN = {7, 1, 999, 6, 99};
    private static final int[] LEAST_OF_MAN = {0, 0, 0, -1, 0};
    private static final int[] MOST_OF_HOUSE = {5, 20, 999, 9999};

    public static void main(String[] args) {
        newObjectHasNothing();
        manWithin();
        manTellsWhatItWas();
        nowWithin();
        ofWithin();
        mindsWithin();
        buysWithin();
        buysNothing();
        setWithin();
        setTellsWhatItWas();
        turnWithin();
        asWithin();
        asOfAnotherKind();
        asIsAskedBeyondFirst();
        moveWithin();
        moveOfOneAndTheSame();
        moveOverTheEnds();
        Due.end();
    }

    private static void newObjectHasNothing() {
        Edge.accepted("wipe() of a new object", MuffinBells::new, x -> x.wipe(), 0);
        Edge.accepted("terrace() of a new object", MuffinBells::new, x -> x.terrace(), -1);
        Edge.accepted("tear() of a new object", MuffinBells::new, x -> x.tear(), 0);
        Edge.refused("undo() of a new object", MuffinBells::new, x -> x.undo(), Due.NONE);
        for (int s = 0; s < 4; s++) {
            int sheet = s;
            Edge.refused("book(" + s + ") of a new object", MuffinBells::new, x -> x.book(sheet), Due.MISSING);
        }
        for (int which = -1; which <= 6; which++) {
            Due.is("status(" + which + ") of a new object", new MuffinBells().status(which), 0);
        }
    }

    private static void manWithin() {
        for (int w = 0; w < 5; w++) {
            int what = w;
            Edge.within("man(" + what + ", v)", (x, v) -> x.man(what, v), LEAST_OF_MAN[what], MOST_OF_MAN[what]);
        }
        Edge.within("man(what, 0)", (x, what) -> x.man(what, 0), 0, 4);
        Edge.refused("man(-1, 8), both wrong", x -> x.man(-1, 8), Due.BEYOND);
    }

    private static void manTellsWhatItWas() {
        for (int what = 0; what < 5; what++) {
            MuffinBells x = new MuffinBells();
            x.man(what, MOST_OF_MAN[what]);
            Due.is("man(" + what + ", least) of the most", x.man(what, LEAST_OF_MAN[what]), MOST_OF_MAN[what]);
            Due.is("man(" + what + ", most) of the least", x.man(what, MOST_OF_MAN[what]), LEAST_OF_MAN[what]);
            Due.is("now(" + (what + 1) + ")", x.now(what + 1), MOST_OF_MAN[what]);
            x.man(what, MOST_OF_MAN[what] + 1);
            Due.is("now(" + (what + 1) + ") after a refused one", x.now(what + 1), MOST_OF_MAN[what]);
        }
    }

    private static void nowWithin() {
        Edge.within("now(what)", (x, what) -> x.now(what), 0, 7);
    }

    private static void ofWithin() {
        Edge.within("of(house, 4)", (x, house) -> x.of(house, 4), 0, 7);
        Edge.within("of(7, what)", (x, what) -> x.of(7, what), 0, 4);
    }

    private static void mindsWithin() {
        Edge.within("minds(house, 6)", (x, house) -> x.minds(house, 6), 0, 7);
        Edge.within("minds(7, tone)", (x, tone) -> x.minds(7, tone), 0, 6);
    }

    private static void buysWithin() {
        Edge.within("buys(house, 6)", (x, house) -> x.buys(house, 6), 0, 7);
        Edge.within("buys(7, tone)", (x, tone) -> x.buys(7, tone), 0, 6);
    }

    private static void buysNothing() {
        Edge.accepted("buys of an empty tray", () -> trayAndPence(0, 999), x -> x.buys(0, 0), 0);
        Edge.accepted("buys of an empty purse", () -> trayAndPence(999, 0), x -> x.buys(0, 0), 0);
        Edge.accepted("buys of a full tray and purse", () -> trayAndPence(999, 999), x -> x.buys(0, 0), 6);
    }

    private static MuffinBells trayAndPence(int tray, int pence) {
        MuffinBells x = new MuffinBells();
        x.turn(0, Due.LENT);
        x.man(2, tray);
        x.set(0, 2, pence);
        return x;
    }

    private static void setWithin() {
        for (int w = 1; w < 4; w++) {
            int what = w;
            Edge.within("set(house, " + what + ", 1)", (x, house) -> x.set(house, what, 1), 0, 7);
            Edge.within("set(7, " + what + ", v)", (x, v) -> x.set(7, what, v), 0, MOST_OF_HOUSE[what]);
        }
        Edge.within("set(0, what, 1)", (x, what) -> x.set(0, what, 1), 1, 3);
    }

    private static void setTellsWhatItWas() {
        for (int what = 1; what < 4; what++) {
            MuffinBells x = new MuffinBells();
            x.set(7, what, MOST_OF_HOUSE[what]);
            Due.is("set(7, " + what + ", 0) of the most", x.set(7, what, 0), MOST_OF_HOUSE[what]);
            Due.is("set(7, " + what + ", most) of 0", x.set(7, what, MOST_OF_HOUSE[what]), 0);
            Due.is("of(7, " + what + ")", x.of(7, what), MOST_OF_HOUSE[what]);
            Due.is("of(0, " + what + ")", x.of(0, what), new MuffinBells().of(0, what));
        }
    }

    private static void turnWithin() {
        Edge.within("turn(house, 5)", (x, house) -> x.turn(house, 5), 0, 7);
        Edge.within("turn(7, kind)", (x, kind) -> x.turn(7, kind), 0, 5);
    }

    private static void asWithin() {
        Edge.within("as(house, 0)", (x, house) -> x.as(house, 0), 0, 7);
        Edge.accepted("as(5, 5)", Edge::furnished, x -> x.as(5, 5), Edge.furnished().of(5, 1));
        int[] beyond = {-1, 6, Integer.MIN_VALUE, Integer.MAX_VALUE};
        for (int kind : beyond) {
            Edge.refused("as(5, " + kind + ")", x -> x.as(5, kind), Due.BEYOND);
        }
    }

    /** Houses 0 to 5 of the furnished terrace are of kinds 0 to 5. */
    private static void asOfAnotherKind() {
        int[][] others = {{0, 1}, {0, 5}, {1, 2}, {1, 4}, {2, 1}, {2, 5}, {3, 1}, {3, 2}, {4, 2}, {4, 5}, {5, 1}, {5, 4}};
        for (int[] o : others) {
            Edge.refused("as(" + o[0] + ", " + o[1] + ")", x -> x.as(o[0], o[1]), Due.KIND);
        }
        int[][] same = {{0, 0}, {1, 1}, {1, 0}, {2, 0}, {3, 0}, {3, 3}, {4, 4}, {4, 1}, {4, 0}, {5, 2}, {5, 0}};
        for (int[] s : same) {
            int mood = Edge.furnished().of(s[0], 1);
            Edge.accepted("as(" + s[0] + ", " + s[1] + ")", Edge::furnished, x -> x.as(s[0], s[1]), mood);
        }
    }

    private static void asIsAskedBeyondFirst() {
        Edge.refused("as(8, 4)", x -> x.as(8, 4), Due.BEYOND);
        Edge.refused("as(-1, 5)", x -> x.as(-1, 5), Due.BEYOND);
        Edge.refused("as(0, 6)", x -> x.as(0, 6), Due.BEYOND);
    }

    private static void moveWithin() {
        Edge.within("move(house, 3)", (x, house) -> x.move(house, 3), 0, 7);
        Edge.within("move(3, other)", (x, other) -> x.move(3, other), 0, 7);
    }

    private static void moveOfOneAndTheSame() {
        for (int h = 0; h < 8; h++) {
            int house = h;
            Edge.refused("move(" + house + ", " + house + ")", x -> x.move(house, house), Due.BEYOND);
        }
        Edge.refused("move(8, 8)", x -> x.move(8, 8), Due.BEYOND);
    }

    private static void moveOverTheEnds() {
        MuffinBells x = Edge.furnished();
        MuffinBells before = Edge.furnished();
        Due.is("move(7, 0)", x.move(7, 0), 1);
        for (int what = 0; what < 4; what++) {
            Due.is("of(0, " + what + ")", x.of(0, what), before.of(7, what));
            Due.is("of(7, " + what + ")", x.of(7, what), before.of(0, what));
            Due.is("of(1, " + what + ")", x.of(1, what), before.of(1, what));
            Due.is("of(6, " + what + ")", x.of(6, what), before.of(6, what));
        }
        for (int what = 0; what < 8; what++) {
            Due.is("now(" + what + ")", x.now(what), before.now(what));
        }
    }
}
