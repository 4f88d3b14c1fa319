/** Promises 8 to 15: what is asked as of a STEP. */
public final class AsOfStepTest {
    public static void main(String[] args) {
        sizes();
        ties();
        bridgesAndKnots();
        quarrels();
        colours();
        threes();
        forest();
        trees();
        treeEdges();
        told();
        aparts();
        helds();
        heldOnceMore();
        rows();
        laterMembers();
        outside();
        Due.end();
    }

    private static int[] e(int... numbers) {
        return numbers;
    }

    private static void sizes() {
        Undogroups x = House.plain(6, e(4, 2), e(3, 4), e(5, 0));
        Due.same("members", x.of(9, 0), 6);
        Due.same("live", x.of(9, 1), 3);
        Due.same("groups", x.of(9, 2), 3);
        Due.same("greatest size", x.of(9, 3), 3);
        Due.same("greatest number", x.of(9, 4), 2);
        Due.same("group of 3", x.ofMember(9, 3, 0), 2);
        Due.same("size of that of 4", x.ofMember(9, 4, 1), 3);
        Due.same("group of 5", x.ofMember(9, 5, 0), 0);
        Due.same("group of 1", x.ofMember(9, 1, 0), 1);
        Due.same("size of that of 1", x.ofMember(9, 1, 1), 1);
        Due.same("live edges of 4", x.ofMember(9, 4, 4), 2);
        Due.same("live edges of 1", x.ofMember(9, 1, 4), 0);
        Due.same("live edges of 4 before", x.ofMember(7, 4, 4), 1);
        Due.same("greatest before", x.of(6, 3), 1);
    }

    private static void ties() {
        Undogroups x = House.plain(5, e(3, 4), e(1, 2));
        Due.same("greatest size", x.of(7, 3), 2);
        Due.same("greatest number of two", x.of(7, 4), 1);
        Due.same("greatest number of singles", x.of(5, 4), 0);
    }

    private static void bridgesAndKnots() {
        Undogroups x = House.plain(7, e(0, 1), e(1, 2), e(2, 0), e(2, 3), e(3, 4), e(4, 3), e(4, 5));
        int now = House.now(x);
        Due.same("bridges", x.of(now, 5), 2);
        Due.same("knots", x.of(now, 6), 3);
        int[] bridges = {0, 0, 0, 1, 0, 0, 1};
        for (int i = 0; i < 7; i++) {
            Due.same("bridge " + i, x.ofEdge(now, i, 1), bridges[i]);
        }
        int[] knots = {0, 0, 1, 1, 1, 0, 0};
        for (int i = 0; i < 7; i++) {
            Due.same("knot " + i, x.ofMember(now, i, 5), knots[i]);
        }
        x.cut(5);
        Due.same("bridge without its twin", x.ofEdge(now + 1, 4, 1), 1);
        Due.same("not live, no bridge", x.ofEdge(now + 1, 5, 1), 0);
        Due.same("bridges", x.of(now + 1, 5), 3);
        Due.same("bridges before", x.of(now, 5), 2);
    }

    private static void quarrels() {
        Undogroups x = House.with(5, e(0, 1, 3, 0), e(1, 2, 4, 0), e(2, 0, -7, 0), e(0, 2, 8, 0),
            e(1, 0, 3, 0), e(3, 4, 1, 0), e(4, 3, -1, 0));
        int now = House.now(x);
        Due.same("quarrels", x.of(now, 7), 2);
        Due.same("fair groups", x.of(now, 8), 1);
        int[] quarrels = {0, 0, 0, 1, 1, 0, 0};
        for (int i = 0; i < 7; i++) {
            Due.same("quarrel " + i, x.ofEdge(now, i, 3), quarrels[i]);
        }
        Due.same("fair 2", x.ofMember(now, 2, 8), 0);
        Due.same("fair 4", x.ofMember(now, 4, 8), 1);
        Due.same("smallest quarrel of 0", x.ofMember(now, 0, 9), 3);
        Due.same("smallest quarrel of 3", x.ofMember(now, 3, 9), -1);
        Due.same("mend()", x.mend(), 24);
        x.cut(0);
        Due.same("both quarrel still", x.mend(), 24);
        x.cut(2);
        Due.same("one quarrels still", x.mend(), 16);
        Due.same("edge 3 is no quarrel now", x.ofEdge(now + 2, 3, 3), 0);
        Due.same("edge 3 grew a tree", x.ofEdge(now + 2, 3, 5), 1);
        Due.same("edge 3 was a quarrel", x.ofEdge(now, 3, 3), 1);
        Due.same("edge 3 grew none", x.ofEdge(now, 3, 5), 0);
    }

    private static void colours() {
        Undogroups x = House.plain(9, e(3, 2), e(2, 4), e(4, 5), e(5, 3), e(0, 1), e(1, 6), e(6, 7), e(7, 8),
            e(8, 0));
        int now = House.now(x);
        Due.same("even groups", x.of(now, 9), 1);
        int[] colours = {-1, -1, 0, 1, 1, 0, -1, -1, -1};
        int[] rings = {5, 5, -1, -1, -1, -1, 5, 5, 5};
        for (int i = 0; i < 9; i++) {
            Due.same("colour " + i, x.ofMember(now, i, 6), colours[i]);
            Due.same("ring " + i, x.ofMember(now, i, 7), rings[i]);
        }
        x.edge(0, 6, 0, 0);
        Due.same("shorter ring", x.ofMember(now + 1, 8, 7), 3);
        Due.same("ring before", x.ofMember(now, 8, 7), 5);
        Due.same("alone", x.ofMember(9, 8, 6), 0);
        Due.same("alone, ring", x.ofMember(9, 8, 7), -1);
        Due.same("all even", x.of(9, 9), 9);
    }

    private static void threes() {
        Undogroups x = House.plain(13, e(0, 1), e(1, 2), e(2, 0), e(0, 3), e(1, 3), e(2, 3));
        int now = House.now(x);
        Due.same("three of a full four", x.ofMember(now, 3, 10), 0);
        Due.same("three before", x.ofMember(now - 1, 3, 10), 1);
        Due.same("three alone", x.ofMember(now, 12, 10), 1);
        for (int i = 4; i < 12; i++) {
            x.edge(i, i - 1, 0, 0);
        }
        Due.same("three with 12", x.ofMember(now + 8, 11, 10), 0);
        x.cut(0);
        Due.same("three with 12, one cut", x.ofMember(now + 9, 11, 10), 1);
        x.edge(12, 0, 0, 0);
        Due.same("three with 13", x.ofMember(now + 10, 5, 10), -1);
        Undogroups wheel = House.plain(6, e(1, 2), e(2, 3), e(3, 4), e(4, 5), e(5, 1), e(0, 1), e(0, 2),
            e(0, 3), e(0, 4), e(0, 5));
        Due.same("three of a wheel of five", wheel.ofMember(16, 2, 10), 0);
        wheel.cut(9);
        Due.same("three of a broken wheel", wheel.ofMember(17, 2, 10), 1);
    }

    private static void forest() {
        Undogroups x = House.with(5, e(0, 1, 0, 9), e(1, 2, 0, 5), e(2, 0, 0, 5), e(0, 2, 0, 4),
            e(3, 4, 0, 99), e(1, 0, 0, 5));
        int now = House.now(x);
        int[] taken = {0, 1, 0, 1, 1, 0};
        int[] spare = {-1, 5, -1, 2, -1, -1};
        for (int i = 0; i < 6; i++) {
            Due.same("in the forest " + i, x.ofEdge(now, i, 2), taken[i]);
            Due.same("in its place " + i, x.ofEdge(now, i, 4), spare[i]);
        }
        Due.same("cost", x.of(now, 10), 108);
        x.cut(5);
        Due.same("cost", x.of(now + 1, 10), 108);
        Due.same("in its place", x.ofEdge(now + 1, 1, 4), 0);
        Due.same("cut, not in the forest", x.ofEdge(now + 1, 5, 2), 0);
        x.cut(1);
        Due.same("cost", x.of(now + 2, 10), 112);
        Due.same("taken in its place", x.ofEdge(now + 2, 0, 2), 1);
        Due.same("the other way round", x.ofEdge(now + 2, 3, 4), 2);
        Due.same("without one", x.ofEdge(now + 2, 0, 4), -1);
    }

    private static void trees() {
        Undogroups x = House.plain(8, e(1, 0), e(3, 2), e(2, 0), e(5, 4), e(7, 6), e(7, 5), e(4, 3));
        int now = House.now(x);
        int[] depths = {0, 1, 1, 2, 1, 2, 2, 3};
        for (int i = 0; i < 8; i++) {
            Due.same("root " + i, x.ofMember(now, i, 2), 0);
            Due.same("depth " + i, x.ofMember(now, i, 3), depths[i]);
        }
        Due.same("greatest depth", x.of(now, 11), 3);
        Due.same("greatest depth before", x.of(now - 1, 11), 2);
        Due.same("root of 7 before", x.ofMember(now - 1, 7, 2), 4);
        Undogroups y = House.plain(4, e(2, 3), e(3, 0), e(1, 0));
        Due.same("root of the smaller one", y.ofMember(7, 0, 2), 2);
        Due.same("its group", y.ofMember(7, 0, 0), 0);
        Due.same("root of 1", y.ofMember(7, 1, 2), 2);
        Due.same("depth of 1", y.ofMember(7, 1, 3), 1);
        y.cut(0);
        Due.same("in their order, told or not", y.ofMember(8, 3, 2), 0);
        Due.same("root of 2 alone", y.ofMember(8, 2, 2), 2);
    }

    private static void treeEdges() {
        Undogroups x = House.with(3, e(0, 1, 1, 9), e(1, 0, -1, 0), e(1, 2, 0, 3), e(2, 0, 5, 0));
        int[] grown = {1, 0, 1, 0};
        int[] live = {1, 1, 1, 1};
        for (int i = 0; i < 4; i++) {
            Due.same("grew " + i, x.ofEdge(7, i, 5), grown[i]);
            Due.same("live " + i, x.ofEdge(7, i, 0), live[i]);
            Due.same("grew at 3: " + i, x.ofEdge(3, i, 5), 0);
            Due.same("live at 3: " + i, x.ofEdge(3, i, 0), 0);
            Due.same("spare at 3: " + i, x.ofEdge(3, i, 4), -1);
        }
        x.cut(0);
        Due.same("the twin grew", x.ofEdge(8, 1, 5), 1);
        Due.same("cut did not", x.ofEdge(8, 0, 5), 0);
        Due.same("live", x.ofEdge(8, 0, 0), 0);
    }

    private static void told() {
        Undogroups x = House.with(3, e(2, 1, -7, 8), e(0, 1, 99, 0));
        int[] due = {2, 1, -7, 8, 4, 2};
        for (int what = 0; what <= 5; what++) {
            Due.same("told(0, " + what + ")", x.told(0, what), due[what]);
        }
        Due.same("told(1, 4)", x.told(1, 4), 5);
        x.cut(0);
        Due.same("steps live, cut", x.told(0, 5), 2);
        Due.same("steps live", x.told(1, 5), 2);
        x.join(0);
        x.back(4);
        Due.same("steps live", x.told(0, 5), 4);
        Due.same("steps live", x.told(1, 5), 3);
        x.back(0);
        Due.same("told stays", x.told(0, 0), 2);
        Due.same("told stays", x.told(0, 5), 4);
        for (int what : new int[] {-1, 6, Integer.MIN_VALUE, Integer.MAX_VALUE}) {
            Due.fails(x, "told(0, " + what + ")", House.ARGUMENT, () -> x.told(0, what));
            Due.fails(x, "told(2, " + what + ")", House.INDEX, () -> x.told(2, what));
        }
        Due.fails(x, "told(-1, 0)", House.INDEX, () -> x.told(-1, 0));
        Due.fails(x, "told(60, 0)", House.INDEX, () -> x.told(60, 0));
    }

    private static void aparts() {
        Undogroups x = House.with(5, e(0, 1, 10, 0), e(3, 2, 4, 0), e(2, 1, -3, 0), e(0, 3, 50, 0));
        int now = House.now(x);
        int[] levels = {0, 10, 13, 9};
        for (int one = 0; one < 4; one++) {
            for (int two = 0; two < 4; two++) {
                Due.same("apart(" + one + ", " + two + ")", x.apart(now, one, two), levels[two] - levels[one]);
            }
        }
        Due.same("apart(4, 4)", x.apart(now, 4, 4), 0);
        Due.same("apart before", x.apart(now - 2, 3, 2), 4);
        Due.fails(x, "apart before", House.STATE, () -> x.apart(now - 2, 0, 2));
        Due.fails(x, "apart(4, 0)", House.STATE, () -> x.apart(now, 4, 0));
        Due.fails(x, "apart(5, 0)", House.INDEX, () -> x.apart(now, 5, 0));
        Due.fails(x, "apart(0, 5)", House.INDEX, () -> x.apart(now, 0, 5));
        Due.fails(x, "apart(-1, 0)", House.INDEX, () -> x.apart(now, -1, 0));
        Due.fails(x, "apart(0, -1)", House.INDEX, () -> x.apart(now, 0, -1));
        Due.fails(x, "apart as of 4", House.INDEX, () -> x.apart(4, 0, 4));
        Due.fails(x, "apart as of -1", House.INDEX, () -> x.apart(-1, 0, 0));
        Due.fails(x, "apart later", House.INDEX, () -> x.apart(now + 1, 0, 0));
        x.cut(0);
        Due.same("a quarrel is kept now", x.apart(now + 1, 0, 1), 51);
        Undogroups far = House.with(24);
        for (int i = 1; i < 24; i++) {
            far.edge(i - 1, i, -99, 0);
        }
        Due.same("the whole way", far.apart(47, 0, 23), -23 * 99);
        Due.same("the whole way back", far.apart(47, 23, 0), 23 * 99);
    }

    private static void helds() {
        Undogroups x = House.plain(7, e(0, 1), e(0, 2), e(0, 3), e(1, 2), e(1, 3), e(2, 3), e(3, 4), e(3, 4),
            e(4, 5));
        int now = House.now(x);
        Due.same("held(0, 1)", x.held(now, 0, 1), 3);
        Due.same("held(1, 0)", x.held(now, 1, 0), 3);
        Due.same("held(0, 4)", x.held(now, 0, 4), 2);
        Due.same("held(5, 0)", x.held(now, 5, 0), 1);
        Due.same("held(6, 0)", x.held(now, 6, 0), 0);
        Due.same("held before", x.held(now - 1, 5, 4), 0);
        Due.same("held(0, 4) before", x.held(now - 2, 0, 4), 1);
        Due.fails(x, "held(3, 3)", House.ARGUMENT, () -> x.held(now, 3, 3));
        Due.fails(x, "held(7, 7)", House.INDEX, () -> x.held(now, 7, 7));
        Due.fails(x, "held(0, 7)", House.INDEX, () -> x.held(now, 0, 7));
        Due.fails(x, "held(-1, 0)", House.INDEX, () -> x.held(now, -1, 0));
        Due.fails(x, "held as of 3", House.INDEX, () -> x.held(3, 0, 3));
        Due.fails(x, "held later", House.INDEX, () -> x.held(now + 1, 0, 1));
        Due.fails(x, "held as of -1", House.INDEX, () -> x.held(-1, 0, 0));
    }

    /** Graphs in which the first ways that are found by being short bar others, and have to be led off again. */
    private static void heldOnceMore() {
        Undogroups x = House.plain(14, e(1, 2), e(2, 3), e(3, 0), e(1, 4), e(4, 5), e(5, 3), e(2, 6), e(6, 7),
            e(7, 0), e(1, 8), e(8, 9), e(9, 10), e(10, 3), e(2, 11), e(11, 12), e(12, 13), e(13, 0));
        Due.same("held(0, 1) over 3 to 2", x.held(House.now(x), 0, 1), 3);
        Due.same("held(1, 0) over 3 to 2", x.held(House.now(x), 1, 0), 3);
        for (int[] way : new int[][] {e(1, 14, 15, 16, 17, 3), e(2, 18, 19, 20, 21, 0)}) {
            for (int i = 1; i < way.length; i++) {
                while (x.house(1) <= way[i]) {
                    x.member();
                }
                x.edge(way[i - 1], way[i], 0, 0);
            }
        }
        Due.same("held(0, 1) no more", x.held(House.now(x), 0, 1), 3);
        Undogroups y = House.plain(12, e(1, 2), e(2, 3), e(3, 0), e(1, 4), e(4, 3), e(2, 5), e(5, 0), e(1, 6),
            e(6, 7), e(7, 8), e(8, 2), e(3, 9), e(9, 10), e(10, 11), e(11, 0));
        Due.same("held(0, 1) over 2 to 3", y.held(House.now(y), 0, 1), 3);
        Due.same("held(1, 0) over 2 to 3", y.held(House.now(y), 1, 0), 3);
        y.cut(1);
        Due.same("held(0, 1) without", y.held(House.now(y), 0, 1), 2);
    }

    private static void rows() {
        Undogroups x = House.plain(12, e(11, 0), e(10, 2), e(2, 5), e(7, 0));
        Due.text("row(16)", x.row(16), "0,7,11|1|2,5,10|3|4|6|8|9");
        Due.text("row(12)", x.row(12), "0|1|2|3|4|5|6|7|8|9|10|11");
        Due.text("row(1)", x.row(1), "0");
        Due.text("row(0)", x.row(0), "");
        Due.same("live(16)", x.live(16), 15);
        Due.same("live(14)", x.live(14), 3);
        x.cut(1);
        Due.same("live(17)", x.live(17), 13);
        Due.text("row(17)", x.row(17), "0,7,11|1|2,5|3|4|6|8|9|10");
    }

    private static void laterMembers() {
        Undogroups x = House.with(2);
        Due.fails(x, "ofMember(1, 1, 0)", House.INDEX, () -> x.ofMember(1, 1, 0));
        Due.same("ofMember(2, 1, 0)", x.ofMember(2, 1, 0), 1);
        x.back(1);
        Due.fails(x, "ofMember(3, 1, 0)", House.INDEX, () -> x.ofMember(3, 1, 0));
        Due.same("ofMember(2, 1, 0) still", x.ofMember(2, 1, 0), 1);
    }

    private static void outside() {
        Undogroups x = House.plain(2, e(0, 1));
        for (int step : new int[] {-1, 4, 250, Integer.MIN_VALUE, Integer.MAX_VALUE}) {
            Due.fails(x, "of(" + step + ")", House.INDEX, () -> x.of(step, 0));
            Due.fails(x, "of(" + step + ", 12)", House.INDEX, () -> x.of(step, 12));
            Due.fails(x, "ofMember(" + step + ")", House.INDEX, () -> x.ofMember(step, 0, 0));
            Due.fails(x, "ofEdge(" + step + ")", House.INDEX, () -> x.ofEdge(step, 0, 0));
            Due.fails(x, "live(" + step + ")", House.INDEX, () -> x.live(step));
            Due.fails(x, "row(" + step + ")", House.INDEX, () -> x.row(step));
        }
        for (int number : new int[] {-1, 2, 24, 60, Integer.MIN_VALUE, Integer.MAX_VALUE}) {
            Due.fails(x, "ofMember(3, " + number + ")", House.INDEX, () -> x.ofMember(3, number, 99));
            Due.fails(x, "ofEdge(3, " + number + ")", House.INDEX, () -> x.ofEdge(3, number, 99));
        }
        Due.fails(x, "ofEdge(3, 1)", House.INDEX, () -> x.ofEdge(3, 1, 0));
        for (int what : new int[] {-1, 12, Integer.MIN_VALUE, Integer.MAX_VALUE}) {
            Due.fails(x, "of(3, " + what + ")", House.ARGUMENT, () -> x.of(3, what));
            Due.fails(x, "ofMember(3, 0, " + what + ")", House.ARGUMENT, () -> x.ofMember(3, 0, what));
            Due.fails(x, "ofEdge(3, 0, " + what + ")", House.ARGUMENT, () -> x.ofEdge(3, 0, what));
        }
        Due.fails(x, "ofMember(3, 0, 11)", House.ARGUMENT, () -> x.ofMember(3, 0, 11));
        Due.fails(x, "ofEdge(3, 0, 6)", House.ARGUMENT, () -> x.ofEdge(3, 0, 6));
    }
}
