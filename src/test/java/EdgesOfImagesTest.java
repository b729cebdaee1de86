/** The edges that promises 36 to 40 name. */
public final class EdgesOfImagesTest {
    public static void main(String[] args) {
        imageOfANewObject();
        imageAgain();
        undoOfNothing();
        undoOfTheTorn();
        undoStays();
        undoLeavesTapeAndSheets();
        undoTakesNoFindingBack();
        tearOfNothing();
        tearLeavesTheRest();
        countWithin();
        countAtTheEnds();
        statusWithin();
        statusCountsItself();
        statusOfEach();
        Due.end();
    }

    private static void imageOfANewObject() {
        MuffinBells x = new MuffinBells();
        String before = Due.state(x);
        Due.is("image()", x.image(), 1);
        x.hours(100);
        x.move(0, 7);
        Due.is("undo()", x.undo(), 0);
        Due.same("as at first", Due.state(x), before);
    }

    private static void imageAgain() {
        MuffinBells x = Edge.furnished();
        int hour = x.now(0);
        String latest = Due.state(x);
        Due.is("image() over another", x.image(), 1);
        x.hours(1);
        Due.is("undo() to the latest", x.undo(), hour);
        Due.same("the latest", Due.state(x), latest);
        Due.is("tear() of both", x.tear(), 1);
        Due.is("undo() to the one before", x.undo(), Due.NONE);
    }

    private static void undoOfNothing() {
        Edge.refused("undo() of nothing", MuffinBells::new, x -> x.undo(), Due.NONE);
    }

    private static MuffinBells torn() {
        MuffinBells x = Edge.furnished();
        x.tear();
        return x;
    }

    private static void undoOfTheTorn() {
        Edge.refused("undo() of the torn", EdgesOfImagesTest::torn, x -> x.undo(), Due.NONE);
        MuffinBells x = torn();
        int hour = x.now(0);
        x.image();
        x.hours(2);
        Due.is("undo() of a new one", x.undo(), hour);
    }

    private static void undoStays() {
        MuffinBells x = Edge.furnished();
        Due.is("undo()", x.undo(), 6);
        String kept = Due.state(x);
        for (int i = 0; i < 3; i++) {
            x.hours(7);
            x.move(0, 7);
            Due.is("undo() again", x.undo(), 6);
            Due.same("what was kept", Due.state(x), kept);
        }
        Due.is("tear()", x.tear(), 1);
        Due.same("what has come of it stays", Due.state(x), kept);
    }

    private static void undoLeavesTapeAndSheets() {
        MuffinBells x = new MuffinBells();
        x.sheet(0, 8, 2);
        Due.feed(x, "tray 7");
        x.image();
        x.write(0, 1, 5);
        x.sheet(1, 16, 1);
        Due.feed(x, "8");
        x.undo();
        Due.is("count(1)", x.count(1), 7);
        Due.is("a number", x.write(0, 1, 0), 5);
        Due.is("a sheet", x.write(1, 0, 0), 0);
        Due.is("terrace()", x.terrace(), 1);
        Due.is("TRAY", x.now(3), 78);
        x.undo();
        Due.is("TRAY of the image", x.now(3), 40);
        Due.is("count(1) of the tape that is empty since", x.count(1), 0);
    }

    private static void undoTakesNoFindingBack() {
        MuffinBells x = new MuffinBells();
        x.image();
        x.now(8);
        x.lays(0);
        x.undo();
        Due.is("status(-1)", x.status(-1), 2);
        Due.is("status(0)", x.status(0), 1);
        Due.is("status(5)", x.status(5), 1);
    }

    private static void tearOfNothing() {
        Edge.accepted("tear() of nothing", MuffinBells::new, x -> x.tear(), 0);
        Edge.accepted("tear() of the torn", EdgesOfImagesTest::torn, x -> x.tear(), 0);
        Edge.accepted("tear() of something", Edge::furnished, x -> x.tear(), 1);
    }

    private static void tearLeavesTheRest() {
        Due.same("tear() changes no terrace", Due.state(torn()), Due.state(Edge.furnished()));
    }

    private static void countWithin() {
        Edge.within("count(what)", (x, what) -> x.count(what), 0, 3);
    }

    private static void countAtTheEnds() {
        MuffinBells x = new MuffinBells();
        int[] first = {0, 0, 80, 0};
        for (int what = 0; what < 4; what++) {
            Due.is("count(" + what + ") at first", x.count(what), first[what]);
        }
        for (int house = 0; house < 8; house++) {
            x.turn(house, 1 + house % 5);
            x.set(house, 1, 20);
            x.set(house, 3, 9999);
        }
        for (int i = 0; i < 30; i++) {
            x.feed(0, 4);
        }
        int[] most = {8, 120, 160, 79992};
        for (int what = 0; what < 4; what++) {
            Due.is("count(" + what + ") at most", x.count(what), most[what]);
        }
        x.turn(7, 0);
        Due.is("count(0) of one fewer", x.count(0), 7);
        for (int house = 0; house < 8; house++) {
            x.set(house, 1, 0);
        }
        Due.is("count(2) at least", x.count(2), 0);
    }

    private static void statusWithin() {
        Edge.within("status(which)", (x, which) -> x.status(which), -1, 6);
    }

    private static void statusCountsItself() {
        MuffinBells x = new MuffinBells();
        Due.is("status(-1)", x.status(-1), 0);
        Due.is("status(7)", x.status(7), Due.BEYOND);
        Due.is("status(0), counted from then on", x.status(0), 1);
        Due.is("status(-2)", x.status(-2), Due.BEYOND);
        Due.is("status(-1), counted from then on", x.status(-1), 2);
        Due.is("status(-1) counts no answer that is none", x.status(-1), 2);
    }

    private static void statusOfEach() {
        MuffinBells x = new MuffinBells();
        for (int i = 0; i < 30; i++) {
            x.feed(0, 4);
        }
        int[] found = new int[7];
        int[] reachable = {0, 1, 2, 3, 5, 6, 0, 1, 2, 3, 5, 6};
        for (int which : reachable) {
            int all = x.status(-1);
            Due.is("finding " + which, find(x, which), Due.BEYOND - which);
            found[which]++;
            Due.is("status(-1)", x.status(-1), all + 1);
            for (int w = 0; w < 7; w++) {
                Due.is("status(" + w + ") after finding " + which, x.status(w), found[w]);
            }
        }
    }

    private static long find(MuffinBells x, int which) {
        switch (which) {
            case 0: return x.now(8);
            case 1: return x.feed(0, 1);
            case 2: return x.as(0, 1);
            case 3: return x.undo();
            case 5: return x.write(0, 0, 0);
            default: return x.sheet(0, 0, -1);
        }
    }
}
