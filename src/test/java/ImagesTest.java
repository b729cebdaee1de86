/** Promises 36 to 40. */
public final class ImagesTest {
    private static final int TERRACES = 30;

    public static void main(String[] args) {
        imageAndUndo();
        undoLeavesTheRest();
        latestImage();
        tear();
        count();
        countWrong();
        status();
        statusOfEach();
        Due.end();
    }

    private static void imageAndUndo() {
        for (int seed = 0; seed < TERRACES; seed++) {
            MuffinBells x = Due.mixed(seed);
            String before = Due.state(x);
            int hour = x.now(0);
            Due.is("image()", x.image(), 1);
            change(x);
            Due.is("undo()", x.undo(), hour);
            Due.same("undo()", Due.state(x), before);
            change(x);
            Due.is("undo() again", x.undo(), hour);
            Due.same("undo() again", Due.state(x), before);
        }
    }

    private static void change(MuffinBells x) {
        x.hours(13);
        for (int house = 0; house < 8; house++) {
            x.turn(house, (x.of(house, 0) + 1) % 6);
            x.set(house, 1, 20 - x.of(house, 1));
            x.set(house, 2, 999 - x.of(house, 2));
            x.set(house, 3, 500 + x.of(house, 3));
        }
        x.man(0, (x.now(1) + 1) % 8);
        x.man(1, 1 - x.now(2));
        x.man(2, 999 - x.now(3));
        x.man(3, x.now(4) == -1 ? 2 : -1);
        x.man(4, 99 - x.now(5));
    }

    private static void undoLeavesTheRest() {
        MuffinBells x = new MuffinBells();
        Due.feed(x, "ab");
        x.image();
        Due.feed(x, "cde");
        x.sheet(1, 8, 3);
        x.write(1, 0, 4);
        x.hours(0);
        x.undo();
        Due.is("THE TAPE is not kept", x.count(1), 5);
        Due.is("sheets are not kept", x.write(1, 0, 0), 4);
        Due.is("undo() takes no finding back", x.status(-1), 1);
    }

    private static void latestImage() {
        MuffinBells x = new MuffinBells();
        x.image();
        x.hours(7);
        x.image();
        x.hours(5);
        Due.is("undo() to the latest", x.undo(), 7);
        Due.is("HOUR", x.now(0), 7);
        Due.is("which stays", x.undo(), 7);
    }

    private static void tear() {
        MuffinBells x = new MuffinBells();
        Due.is("tear() of nothing", x.tear(), 0);
        x.image();
        x.hours(3);
        Due.is("tear()", x.tear(), 1);
        Due.is("tear() again", x.tear(), 0);
        Due.is("undo()", x.undo(), Due.NONE);
        Due.is("HOUR", x.now(0), 3);
        Due.is("findings NONE", x.status(3), 1);
        x.image();
        Due.is("undo() of a new one", x.undo(), 3);
    }

    private static void count() {
        MuffinBells x = new MuffinBells();
        Due.is("count(0)", x.count(0), 0);
        Due.is("count(2)", x.count(2), 80);
        Due.is("count(3)", x.count(3), 0);
        for (int house = 0; house < 6; house++) {
            x.turn(house, house);
            x.set(house, 1, house);
            x.set(house, 3, 100 * house);
        }
        Due.is("count(0)", x.count(0), 5);
        Due.is("count(2)", x.count(2), 35);
        Due.is("count(3)", x.count(3), 1500);
        x.feed(0, 3);
        Due.is("count(1)", x.count(1), 3);
        for (int house = 0; house < 8; house++) {
            x.set(house, 3, 9999);
        }
        Due.is("count(3)", x.count(3), 79992);
    }

    private static void countWrong() {
        MuffinBells x = new MuffinBells();
        int[] wrong = {-1, 4, Integer.MIN_VALUE, Integer.MAX_VALUE};
        for (int what : wrong) {
            Due.is("count(" + what + ")", x.count(what), Due.BEYOND);
        }
        Due.is("status(0)", x.status(0), wrong.length);
    }

    private static void status() {
        MuffinBells x = new MuffinBells();
        for (int which = -1; which <= 6; which++) {
            Due.is("status(" + which + ") at first", x.status(which), 0);
        }
        Due.is("status(7)", x.status(7), Due.BEYOND);
        Due.is("counted from then on", x.status(0), 1);
        Due.is("status(-2)", x.status(-2), Due.BEYOND);
        Due.is("status(far)", x.status(Integer.MIN_VALUE), Due.BEYOND);
        Due.is("status(far)", x.status(Integer.MAX_VALUE), Due.BEYOND);
        Due.is("counted from then on", x.status(-1), 4);
    }

    private static void statusOfEach() {
        MuffinBells x = new MuffinBells();
        x.of(8, 0);
        for (int i = 0; i < 31; i++) {
            x.feed(0, 4);
        }
        x.feed(0, 4);
        x.as(0, 1);
        x.as(0, 2);
        x.as(0, 3);
        for (int i = 0; i < 4; i++) {
            x.undo();
        }
        for (int i = 0; i < 6; i++) {
            x.lays(i % 4);
        }
        for (int i = 0; i < 7; i++) {
            x.sheet(0, 8, -1);
        }
        int[] want = {1, 2, 3, 4, 0, 6, 7};
        for (int which = 0; which < 7; which++) {
            Due.is("status(" + which + ")", x.status(which), want[which]);
        }
        Due.is("status(-1)", x.status(-1), 23);
    }
}
