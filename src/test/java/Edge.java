/** What the tests of the edges share: a furnished terrace, and what is asked of a call at an edge. */
final class Edge {
    interface Making {
        MuffinBells make();
    }

    interface Call {
        long on(MuffinBells x);
    }

    interface Given {
        long on(MuffinBells x, int v);
    }

    /** All its bits are 1 but the highest, so that what a number holds of it tells how many bits it has. */
    private static final long PROBE = Long.MAX_VALUE;

    private Edge() {
    }

    /** A terrace in which nothing is as at first, so that whatever a call changes can be seen. */
    static MuffinBells furnished() {
        MuffinBells x = new MuffinBells();
        x.undo();
        x.as(0, 1);
        x.as(0, 2);
        x.lays(0);
        x.sheet(0, 8, -1);
        x.now(8);
        int[] kinds = {0, 1, 2, 3, 4, 5, 4, 2};
        for (int house = 0; house < 8; house++) {
            x.turn(house, kinds[house]);
            x.set(house, 1, 2 * house + 3);
            x.set(house, 2, 101 + house);
            x.set(house, 3, 10 * house + 1);
        }
        x.man(0, 5);
        x.man(1, 0);
        x.man(2, 77);
        x.man(3, 2);
        x.man(4, 11);
        x.hours(6);
        x.image();
        x.hours(5);
        x.man(0, 6);
        x.sheet(0, 8, 3);
        x.write(0, 0, 4);
        x.write(0, 2, -6);
        x.sheet(1, 16, 2);
        x.write(1, 1, 700);
        x.sheet(2, 64, 1);
        x.write(2, 0, 1L << 40);
        Due.feed(x, "tray 5");
        return x;
    }

    /** The furnished one with houses all alike, and nothing that rang. */
    static MuffinBells alike() {
        MuffinBells x = furnished();
        for (int house = 0; house < 8; house++) {
            x.turn(house, 0);
            x.set(house, 1, 10);
            x.set(house, 2, 30);
        }
        x.man(3, -1);
        return x;
    }

    /** The furnished one with Lent in all houses, that can pay and buy six each while the bell is whole. */
    static MuffinBells inLent() {
        MuffinBells x = furnished();
        for (int house = 0; house < 8; house++) {
            x.turn(house, Due.LENT);
            x.set(house, 1, 0);
            x.set(house, 2, 999);
        }
        x.man(2, 999);
        x.man(3, 0);
        x.man(4, 0);
        return x;
    }

    /** The answer is the one that is due, and no finding is counted. */
    static void accepted(String told, Making making, Call call, long due) {
        MuffinBells x = making.make();
        int found = x.status(-1);
        Due.is(told, call.on(x), due);
        Due.is(told + ": findings", x.status(-1), found);
    }

    /** The finding is the one that is due, it is counted once, and nothing else is other than without the call. */
    static void refused(String told, Making making, Call call, int finding) {
        MuffinBells x = making.make();
        MuffinBells untouched = making.make();
        Due.is(told, call.on(x), finding);
        for (int which = -1; which <= 6; which++) {
            int more = which == -1 || which == Due.BEYOND - finding ? 1 : 0;
            Due.is(told + ": status(" + which + ")", x.status(which), untouched.status(which) + more);
        }
        Due.same(told + " changes nothing", whole(x), whole(untouched));
    }

    static void refused(String told, Call call, int finding) {
        refused(told, Edge::furnished, call, finding);
    }

    /** The least and the most may be; what is next to them outside, and what is far off, is BEYOND. */
    static void within(String told, Given call, int least, int most) {
        int[] last = {least, most};
        for (int v : last) {
            MuffinBells x = furnished();
            int found = x.status(-1);
            Due.is(told + " given " + v + " is told", call.on(x, v) >= -1000000000L ? 1 : 0, 1);
            Due.is(told + " given " + v + ": findings", x.status(-1), found);
        }
        int[] beyond = {least - 1, most + 1, Integer.MIN_VALUE, Integer.MAX_VALUE};
        for (int v : beyond) {
            refused(told + " given " + v, x -> call.on(x, v), Due.BEYOND);
        }
    }

    /** All that calls can tell of an object, which is spent by that. */
    static String whole(MuffinBells x) {
        StringBuilder all = new StringBuilder(Due.state(x));
        for (int s = 0; s < 4; s++) {
            for (int t = 0; t < s; t++) {
                all.append(" bits ").append(x.copy(s, 0, t, 0, 0));
            }
        }
        for (int s = 0; s < 4; s++) {
            all.append(" sheet");
            appendNumbers(all, x, s);
        }
        all.append(" text ").append(x.terrace()).append(": ").append(Due.state(x));
        all.append(" image ").append(x.undo()).append(": ").append(Due.state(x));
        return all.toString();
    }

    private static void appendNumbers(StringBuilder all, MuffinBells x, int s) {
        for (int i = 0; i <= 40; i++) {
            long was = x.write(s, i, PROBE);
            all.append(' ').append(was);
            if (was == Due.BEYOND || was == Due.MISSING) {
                return;
            }
            all.append('/').append(x.write(s, i, was));
        }
    }
}
