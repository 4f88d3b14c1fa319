/** Makes objects for the tests. */
final class House {
    static final Class<?> INDEX = IndexOutOfBoundsException.class;
    static final Class<?> ARGUMENT = IllegalArgumentException.class;
    static final Class<?> STATE = IllegalStateException.class;

    private House() {
    }

    static Undogroups with(int members) {
        Undogroups x = new Undogroups();
        for (int i = 0; i < members; i++) {
            x.member();
        }
        return x;
    }

    /** Each row is from, to, difference, cost. */
    static Undogroups with(int members, int[]... edges) {
        Undogroups x = with(members);
        for (int[] e : edges) {
            x.edge(e[0], e[1], e[2], e[3]);
        }
        return x;
    }

    /** EDGES without DIFFERENCE and COST; each row is from, to. */
    static Undogroups plain(int members, int[]... edges) {
        Undogroups x = with(members);
        for (int[] e : edges) {
            x.edge(e[0], e[1], 0, 0);
        }
        return x;
    }

    /** Makes STEPS that are like NOW until there are 250. */
    static Undogroups fillSteps(Undogroups x) {
        for (int steps = x.house(0); steps < 250; steps++) {
            x.back(steps - 1);
        }
        return x;
    }

    static int now(Undogroups x) {
        return x.house(0) - 1;
    }
}
