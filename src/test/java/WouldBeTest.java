/** Promises 21 to 26: what would be. */
public final class WouldBeTest {
    public static void main(String[] args) {
        wouldJoin();
        bestCut();
        undo();
        mend();
        isSound();
        digest();
        Due.end();
    }

    private static void wouldJoin() {
        Undogroups x = House.plain(5, new int[] {0, 1}, new int[] {1, 2});
        Due.same("wouldJoin(0, 2)", x.wouldJoin(0, 2), 3);
        Due.same("wouldJoin(0, 3)", x.wouldJoin(0, 3), 2);
        Due.same("wouldJoin(4, 3)", x.wouldJoin(4, 3), 2);
        Due.same("nothing is changed", x.of(7, 2), 3);
        Due.same("no step", x.house(0), 8);
        Due.fails(x, "wouldJoin(1, 1)", House.ARGUMENT, () -> x.wouldJoin(1, 1));
        outsidePairs(x, 5, true);
        House.fillSteps(x);
        Due.same("also with 250 steps", x.wouldJoin(0, 3), 2);
    }

    private static void outsidePairs(Undogroups x, int members, boolean joins) {
        for (int number : new int[] {-1, members, 24, Integer.MIN_VALUE, Integer.MAX_VALUE}) {
            Due.fails(x, "(" + number + ", 0)", House.INDEX, () -> ask(x, number, 0, joins));
            Due.fails(x, "(0, " + number + ")", House.INDEX, () -> ask(x, 0, number, joins));
            Due.fails(x, "(" + number + ", " + number + ")", House.INDEX, () -> ask(x, number, number, joins));
        }
    }

    private static int ask(Undogroups x, int one, int two, boolean joins) {
        return joins ? x.wouldJoin(one, two) : x.undo(one, two);
    }

    private static void bestCut() {
        Undogroups x = House.plain(7, new int[] {0, 1}, new int[] {1, 2}, new int[] {2, 3}, new int[] {3, 4},
            new int[] {5, 6});
        Due.same("the middle of five, first", x.bestCut(), 1);
        x.cut(0);
        Due.same("the middle of four", x.bestCut(), 2);
        x.edge(1, 4, 0, 0);
        Due.same("only one bridge", x.bestCut(), 4);
        x.cut(4);
        Due.same("a ring has none", x.bestCut(), -1);
        x.back(0);
        Due.same("without members", x.bestCut(), -1);
        Undogroups y = House.plain(5, new int[] {0, 1}, new int[] {1, 2}, new int[] {2, 3}, new int[] {3, 4},
            new int[] {1, 2});
        Due.same("a doubled one is none", y.bestCut(), 2);
    }

    private static void undo() {
        Undogroups x = House.plain(4, new int[] {0, 1}, new int[] {1, 2});
        Due.same("undo(0, 1)", x.undo(0, 1), 2);
        Due.same("undo(1, 0)", x.undo(1, 0), 2);
        Due.same("undo(2, 0)", x.undo(2, 0), 1);
        Due.same("undo(0, 3)", x.undo(0, 3), 0);
        x.back(0);
        x.back(6);
        Due.same("one is not there", x.undo(0, 1), 1);
        x.back(6);
        Due.same("two back", x.undo(0, 2), 2);
        x.cut(0);
        Due.same("not together now", x.undo(0, 1), 0);
        x.join(0);
        Due.same("since joined", x.undo(0, 1), 1);
        Due.same("longer", x.undo(1, 2), 4);
        Due.fails(x, "undo(1, 1)", House.ARGUMENT, () -> x.undo(1, 1));
        outsidePairs(x, 4, false);
    }

    private static void mend() {
        Undogroups x = House.with(3, new int[] {0, 1, 1, 0}, new int[] {1, 0, 1, 0}, new int[] {1, 0, -1, 0},
            new int[] {0, 2, 0, 0}, new int[] {1, 2, 99, 0});
        Due.same("mend()", x.mend(), 18);
        x.cut(0);
        Due.same("mend()", x.mend(), 20);
        x.cut(1);
        Due.same("mend()", x.mend(), 16);
        x.back(3);
        Due.same("mend()", x.mend(), 0);
        Undogroups y = House.with(2);
        for (int i = 0; i < 60; i++) {
            y.edge(0, 1, i, 0);
        }
        Due.same("mend() with the greatest", y.mend(), (1L << 60) - 2);
    }

    private static void isSound() {
        Undogroups x = House.with(4, new int[] {0, 1, 1, 3}, new int[] {1, 2, 1, 2}, new int[] {2, 0, 1, 1},
            new int[] {3, 2, 0, 0});
        Due.is("isSound()", x.isSound(), true);
        x.back(3);
        Due.is("isSound() after back", x.isSound(), true);
        x.join(0);
        x.member();
        Due.is("isSound() after join", x.isSound(), true);
        Due.is("isSound() with 250", House.fillSteps(x).isSound(), true);
    }

    private static void digest() {
        Undogroups x = new Undogroups();
        Due.same("digest() of a new one", x.digest(), byHand(x));
        Undogroups y = House.with(5, new int[] {0, 1, 1, 3}, new int[] {1, 2, 1, 2}, new int[] {2, 0, 1, 1},
            new int[] {3, 2, 0, 0});
        y.call();
        y.cut(1);
        y.back(4);
        y.join(0);
        long due = byHand(y);
        Due.same("digest()", y.digest(), due);
        Due.same("digest() again", y.digest(), due);
        for (int i = 0; i < 10; i++) {
            y.back(i);
        }
        Due.same("digest() with more steps", y.digest(), byHand(y));
        long before = y.digest();
        y.call();
        Due.is("digest() changes with what is refused", y.digest() != before, true);
    }

    private static long d;

    private static void put(long v) {
        d = d * 31 + v;
    }

    private static long byHand(Undogroups x) {
        d = 5059;
        int now = x.house(0) - 1;
        int members = x.house(1);
        for (int i = 0; i < 8; i++) {
            put(x.house(i));
        }
        for (int i = 0; i < 12; i++) {
            put(x.of(now, i));
        }
        for (int m = 0; m < members; m++) {
            for (int i = 0; i < 11; i++) {
                put(x.ofMember(now, m, i));
            }
        }
        for (int k = 0; k < x.house(2); k++) {
            put(x.told(k, 4));
            put(x.told(k, 5));
            for (int i = 0; i < 6; i++) {
                put(x.ofEdge(now, k, i));
            }
        }
        for (int s = 0; s <= now; s++) {
            put(x.live(s));
            put(x.of(s, 2));
        }
        for (int m = 0; m < members; m++) {
            for (int n = 0; n < m; n++) {
                put(x.held(now, m, n));
            }
        }
        for (int i = 0; i < 4; i++) {
            put(x.together(0, 1, i));
        }
        put(x.bestCut());
        put(x.mend());
        put((long) (64 * x.mean()));
        put(x.isSound() ? 1 : 0);
        return d;
    }
}
