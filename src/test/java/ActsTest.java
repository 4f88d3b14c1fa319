/** Promises 1 to 7: a new object and the acts. */
public final class ActsTest {
    public static void main(String[] args) {
        newObject();
        members();
        edges();
        edgeArguments();
        edgeLimits();
        cuts();
        joins();
        backs();
        memberNumbersAgain();
        calls();
        noRoomForSteps();
        Due.end();
    }

    private static void newObject() {
        Undogroups x = new Undogroups();
        int[] due = {1, 0, 0, 0, 0, 0, 1, 0};
        for (int what = 0; what < due.length; what++) {
            Due.same("new house(" + what + ")", x.house(what), due[what]);
        }
        for (int what = 0; what <= 11; what++) {
            Due.same("new of(0, " + what + ")", x.of(0, what), what == 4 ? -1 : 0);
        }
        Due.text("new row(0)", x.row(0), "");
        Due.same("new live(0)", x.live(0), 0);
        Due.real("new mean()", x.mean(), 0.0);
        Due.same("new mend()", x.mend(), 0);
        Due.same("new bestCut()", x.bestCut(), -1);
        Due.is("new isSound()", x.isSound(), true);
    }

    private static void members() {
        Undogroups x = new Undogroups();
        for (int i = 0; i < 24; i++) {
            Due.same("member()", x.member(), i);
            Due.same("members now", x.of(i + 1, 0), i + 1);
            Due.same("groups now", x.of(i + 1, 2), i + 1);
        }
        Due.same("steps", x.house(0), 25);
        Due.fails(x, "member() with 24", House.STATE, () -> x.member());
        x.back(23);
        Due.same("member() again", x.member(), 23);
        Due.fails(x, "member() with 24 again", House.STATE, () -> x.member());
    }

    private static void edges() {
        Undogroups x = House.with(3);
        Due.same("edge(0, 1)", x.edge(0, 1, 5, 7), 0);
        Due.same("edge(1, 0)", x.edge(1, 0, -99, 0), 1);
        Due.same("edge(2, 0)", x.edge(2, 0, 99, 99), 2);
        Due.same("live", x.live(6), 7);
        Due.same("groups", x.of(6, 2), 1);
        Due.same("live before", x.live(5), 3);
        Due.same("edges", x.house(2), 3);
        Due.same("steps", x.house(0), 7);
        x.back(3);
        Due.same("edge() keeps counting", x.edge(1, 2, 0, 0), 3);
        Due.same("live", x.live(8), 8);
    }

    private static void edgeArguments() {
        Undogroups x = House.with(2);
        int[][] outside = {{-1, 0}, {0, -1}, {2, 0}, {0, 2}, {24, 0}, {2, 2}, {-1, -1},
            {Integer.MIN_VALUE, 0}, {0, Integer.MAX_VALUE}};
        for (int[] e : outside) {
            Due.fails(x, "edge outside", House.INDEX, () -> x.edge(e[0], e[1], 0, 0));
            Due.fails(x, "edge outside and wrong", House.INDEX, () -> x.edge(e[0], e[1], 100, -1));
        }
        Due.fails(x, "edge to itself", House.ARGUMENT, () -> x.edge(1, 1, 0, 0));
        int[][] wrong = {{-100, 0}, {100, 0}, {0, -1}, {0, 100}, {Integer.MIN_VALUE, 0},
            {Integer.MAX_VALUE, 0}, {0, Integer.MIN_VALUE}, {0, Integer.MAX_VALUE}};
        for (int[] e : wrong) {
            Due.fails(x, "edge with wrong numbers", House.ARGUMENT, () -> x.edge(0, 1, e[0], e[1]));
        }
        Due.same("edges", x.house(2), 0);
    }

    private static void edgeLimits() {
        Undogroups x = House.with(2);
        for (int i = 0; i < 60; i++) {
            Due.same("edge()", x.edge(i % 2, 1 - i % 2, 0, i), i);
        }
        Due.same("live", x.live(62), (1L << 60) - 1);
        Due.same("60 edges hold both", x.held(62, 0, 1), 60);
        Due.fails(x, "edge 60", House.STATE, () -> x.edge(0, 1, 0, 0));
        Due.fails(x, "edge 60 to itself", House.ARGUMENT, () -> x.edge(0, 0, 0, 0));
        Due.fails(x, "edge 60 from 2", House.INDEX, () -> x.edge(2, 0, 0, 0));
        x.back(2);
        Due.fails(x, "edge 60 after back", House.STATE, () -> x.edge(0, 1, 0, 0));
    }

    private static void cuts() {
        Undogroups x = House.plain(4, new int[] {0, 1}, new int[] {1, 2}, new int[] {0, 1});
        Due.same("cut(0), still held", x.cut(0), 2);
        Due.same("cut(2)", x.cut(2), 3);
        Due.same("cut(1)", x.cut(1), 4);
        Due.same("steps", x.house(0), 11);
        Due.same("live", x.live(10), 0);
        Due.same("live before", x.live(8), 6);
        Due.same("cuts", x.house(3), 3);
        Due.fails(x, "cut(1) again", House.STATE, () -> x.cut(1));
        Due.fails(x, "cut(-1)", House.INDEX, () -> x.cut(-1));
        Due.fails(x, "cut(3)", House.INDEX, () -> x.cut(3));
        Due.fails(x, "cut(60)", House.INDEX, () -> x.cut(60));
        Due.fails(x, "cut(least)", House.INDEX, () -> x.cut(Integer.MIN_VALUE));
        Due.fails(x, "cut(most)", House.INDEX, () -> x.cut(Integer.MAX_VALUE));
    }

    private static void joins() {
        Undogroups x = House.plain(3, new int[] {0, 1}, new int[] {1, 2});
        Due.fails(x, "join(0) that is live", House.STATE, () -> x.join(0));
        x.cut(0);
        x.cut(1);
        Due.same("join(1)", x.join(1), 2);
        Due.same("join(0)", x.join(0), 1);
        Due.same("joins", x.house(4), 2);
        Due.same("cuts", x.house(3), 2);
        Due.same("steps", x.house(0), 10);
        Due.fails(x, "join(2)", House.INDEX, () -> x.join(2));
        Due.fails(x, "join(-1)", House.INDEX, () -> x.join(-1));
        x.back(2);
        Due.fails(x, "join(1) without member 2", House.STATE, () -> x.join(1));
        Due.same("join(0) with both", x.join(0), 1);
        x.back(1);
        Due.fails(x, "join(0) without member 1", House.STATE, () -> x.join(0));
        Due.fails(x, "cut(0) that is not there", House.STATE, () -> x.cut(0));
        x.back(0);
        Due.fails(x, "join(0) without members", House.STATE, () -> x.join(0));
    }

    private static void backs() {
        Undogroups x = House.plain(3, new int[] {0, 1}, new int[] {1, 2});
        Due.same("back(4)", x.back(4), 6);
        Due.same("live", x.live(6), 1);
        Due.same("members", x.of(6, 0), 3);
        Due.same("back(0)", x.back(0), 7);
        Due.same("members", x.of(7, 0), 0);
        Due.same("live", x.live(7), 0);
        Due.same("back(7) to now", x.back(7), 8);
        Due.same("back(5)", x.back(5), 9);
        Due.text("row", x.row(9), "0,1,2");
        Due.same("backs", x.house(5), 4);
        Due.fails(x, "back(10)", House.INDEX, () -> x.back(10));
        Due.fails(x, "back(-1)", House.INDEX, () -> x.back(-1));
        Due.fails(x, "back(250)", House.INDEX, () -> x.back(250));
        Due.fails(x, "back(most)", House.INDEX, () -> x.back(Integer.MAX_VALUE));
    }

    private static void memberNumbersAgain() {
        Undogroups x = House.plain(4, new int[] {2, 3}, new int[] {0, 1});
        x.back(2);
        Due.same("members", x.house(1), 2);
        Due.same("live", x.live(7), 0);
        Due.same("edges stay told", x.house(2), 2);
        Due.same("told(0, 1)", x.told(0, 1), 3);
        Due.same("member()", x.member(), 2);
        Due.fails(x, "join(0) without 3", House.STATE, () -> x.join(0));
        Due.same("member()", x.member(), 3);
        Due.same("join(0) with the new ones", x.join(0), 3);
        Due.text("row", x.row(10), "0|1|2,3");
        Due.is("isSound()", x.isSound(), true);
    }

    private static void calls() {
        Undogroups x = House.with(1);
        for (int i = 1; i <= 5; i++) {
            Due.same("call()", x.call(), i);
            Due.same("refused", x.house(7), i);
        }
        Due.same("call() makes no step", x.house(0), 2);
        Due.same("another one's", new Undogroups().call(), 1);
    }

    private static void noRoomForSteps() {
        Undogroups x = House.plain(3, new int[] {0, 1}, new int[] {1, 2});
        x.cut(1);
        House.fillSteps(x);
        Due.same("steps", x.house(0), 250);
        Due.fails(x, "member()", House.STATE, () -> x.member());
        Due.fails(x, "edge()", House.STATE, () -> x.edge(0, 1, 0, 0));
        Due.fails(x, "edge() outside", House.INDEX, () -> x.edge(0, 3, 0, 0));
        Due.fails(x, "edge() wrong", House.ARGUMENT, () -> x.edge(0, 1, 0, 100));
        Due.fails(x, "cut()", House.STATE, () -> x.cut(0));
        Due.fails(x, "cut() outside", House.INDEX, () -> x.cut(2));
        Due.fails(x, "join()", House.STATE, () -> x.join(1));
        Due.fails(x, "join() outside", House.INDEX, () -> x.join(2));
        Due.fails(x, "back()", House.STATE, () -> x.back(0));
        Due.fails(x, "back() outside", House.INDEX, () -> x.back(250));
        Due.same("steps", x.house(0), 250);
        Due.same("cuts", x.house(3), 1);
        Due.same("joins", x.house(4), 0);
        Due.same("call() still", x.call(), 1);
        Undogroups y = House.plain(2, new int[] {0, 1});
        for (int steps = y.house(0); steps < 249; steps++) {
            y.back(3);
        }
        Due.same("the last step", y.member(), 2);
        Due.same("steps", y.house(0), 250);
    }
}
