import java.util.ArrayList;
import java.util.Arrays;
import java.util.List;
import java.util.TreeSet;

/** What the document says, as plainly and slowly as it says it; nothing is kept but the STEPS. */
final class Model {
    static final int NONE = -1;

    /** from, to, difference, cost, the STEP that told it. */
    final List<int[]> edges = new ArrayList<>();
    final List<TreeSet<Integer>> live = new ArrayList<>();
    final List<Integer> members = new ArrayList<>();
    int cuts;
    int joins;
    int backs;
    int refused;

    Model() {
        live.add(new TreeSet<>());
        members.add(0);
    }

    // ---- acts

    int now() {
        return live.size() - 1;
    }

    private void roomForStep() {
        state(live.size() < 250);
    }

    private void step(TreeSet<Integer> set, int count) {
        live.add(set);
        members.add(count);
    }

    int member() {
        int number = members.get(now());
        state(number < 24);
        roomForStep();
        step(new TreeSet<>(live.get(now())), number + 1);
        return number;
    }

    int edge(int from, int to, int difference, int cost) {
        there(now(), from);
        there(now(), to);
        argument(from != to && Math.abs((long) difference) <= 99 && cost >= 0 && cost <= 99);
        state(edges.size() < 60);
        roomForStep();
        edges.add(new int[] {from, to, difference, cost, live.size()});
        TreeSet<Integer> set = new TreeSet<>(live.get(now()));
        set.add(edges.size() - 1);
        step(set, members.get(now()));
        return edges.size() - 1;
    }

    int cut(int edge) {
        isEdge(edge);
        state(live.get(now()).contains(edge));
        roomForStep();
        TreeSet<Integer> set = new TreeSet<>(live.get(now()));
        set.remove(edge);
        step(set, members.get(now()));
        cuts++;
        return groups(now()).size();
    }

    int join(int edge) {
        isEdge(edge);
        state(!live.get(now()).contains(edge));
        state(edges.get(edge)[0] < members.get(now()) && edges.get(edge)[1] < members.get(now()));
        roomForStep();
        TreeSet<Integer> set = new TreeSet<>(live.get(now()));
        set.add(edge);
        step(set, members.get(now()));
        joins++;
        return groups(now()).size();
    }

    int back(int step) {
        isStep(step);
        roomForStep();
        step(new TreeSet<>(live.get(step)), members.get(step));
        backs++;
        return now();
    }

    int call() {
        return ++refused;
    }

    // ---- what a call needs

    private static void state(boolean good) {
        if (!good) {
            throw new IllegalStateException();
        }
    }

    private static void argument(boolean good) {
        if (!good) {
            throw new IllegalArgumentException();
        }
    }

    private static void index(boolean good) {
        if (!good) {
            throw new IndexOutOfBoundsException();
        }
    }

    private void isStep(int step) {
        index(0 <= step && step < live.size());
    }

    private void there(int step, int member) {
        index(0 <= member && member < members.get(step));
    }

    private void isEdge(int edge) {
        index(0 <= edge && edge < edges.size());
    }

    // ---- hanging together

    /** The MEMBERS that hang together with one by the EDGES, without one of them (or NONE). */
    private TreeSet<Integer> reach(Iterable<Integer> by, int start, int without) {
        TreeSet<Integer> seen = new TreeSet<>();
        seen.add(start);
        boolean grows = true;
        while (grows) {
            grows = false;
            for (int e : by) {
                int[] k = edges.get(e);
                if (k[0] != without && k[1] != without && seen.contains(k[0]) != seen.contains(k[1])) {
                    seen.add(k[0]);
                    seen.add(k[1]);
                    grows = true;
                }
            }
        }
        return seen;
    }

    private TreeSet<Integer> group(int step, int member) {
        return reach(live.get(step), member, NONE);
    }

    private List<TreeSet<Integer>> groupsBy(Iterable<Integer> by, int count) {
        List<TreeSet<Integer>> all = new ArrayList<>();
        for (int m = 0; m < count; m++) {
            TreeSet<Integer> set = reach(by, m, NONE);
            if (set.first() == m) {
                all.add(set);
            }
        }
        return all;
    }

    private List<TreeSet<Integer>> groups(int step) {
        return groupsBy(live.get(step), members.get(step));
    }

    private boolean isTogether(int step, int one, int two) {
        int count = members.get(step);
        return one < count && two < count && group(step, one).contains(two);
    }

    private boolean isBridge(int step, int edge) {
        TreeSet<Integer> set = new TreeSet<>(live.get(step));
        return set.remove(edge) && groupsBy(set, members.get(step)).size() > groups(step).size();
    }

    private boolean isKnot(int step, int member) {
        TreeSet<Integer> others = group(step, member);
        others.remove(member);
        for (int other : others) {
            if (!reach(live.get(step), other, member).containsAll(others)) {
                return true;
            }
        }
        return false;
    }

    // ---- trees and forest

    /** On which one each MEMBER hangs, NONE for a root. */
    private int[] above(int step, TreeSet<Integer> grown) {
        int[] above = new int[members.get(step)];
        Arrays.fill(above, NONE);
        for (int e : live.get(step)) {
            int one = root(above, edges.get(e)[0]);
            int two = root(above, edges.get(e)[1]);
            if (one != two) {
                grown.add(e);
                int sizeOne = treeSize(above, one);
                int sizeTwo = treeSize(above, two);
                boolean oneHangs = sizeOne < sizeTwo || sizeOne == sizeTwo && one > two;
                above[oneHangs ? one : two] = oneHangs ? two : one;
            }
        }
        return above;
    }

    private static int root(int[] above, int member) {
        return above[member] == NONE ? member : root(above, above[member]);
    }

    private static int depth(int[] above, int member) {
        return above[member] == NONE ? 0 : 1 + depth(above, above[member]);
    }

    private static int treeSize(int[] above, int root) {
        int size = 0;
        for (int m = 0; m < above.length; m++) {
            size += root(above, m) == root ? 1 : 0;
        }
        return size;
    }

    private TreeSet<Integer> forest(TreeSet<Integer> of) {
        List<Integer> order = new ArrayList<>(of);
        order.sort((a, b) -> edges.get(a)[3] != edges.get(b)[3]
                ? Integer.compare(edges.get(a)[3], edges.get(b)[3]) : Integer.compare(a, b));
        TreeSet<Integer> taken = new TreeSet<>();
        for (int e : order) {
            if (!reach(taken, edges.get(e)[0], NONE).contains(edges.get(e)[1])) {
                taken.add(e);
            }
        }
        return taken;
    }

    private int inPlace(int step, int edge) {
        TreeSet<Integer> forest = forest(live.get(step));
        if (!forest.contains(edge)) {
            return NONE;
        }
        TreeSet<Integer> rest = new TreeSet<>(live.get(step));
        rest.remove(edge);
        TreeSet<Integer> other = forest(rest);
        other.removeAll(forest);
        return other.isEmpty() ? NONE : other.first();
    }

    // ---- levels

    private TreeSet<Integer> quarrels(int step) {
        TreeSet<Integer> kept = new TreeSet<>();
        TreeSet<Integer> quarrels = new TreeSet<>();
        for (int e : live.get(step)) {
            int[] k = edges.get(e);
            Integer apart = apartBy(kept, k[0], k[1]);
            if (apart != null && apart != k[2]) {
                quarrels.add(e);
            } else {
                kept.add(e);
            }
        }
        return quarrels;
    }

    /** null, if they do not hang together by these. */
    private Integer apartBy(TreeSet<Integer> kept, int one, int two) {
        Integer[] level = new Integer[24];
        level[one] = 0;
        for (int round = 0; round < 24; round++) {
            for (int e : kept) {
                int[] k = edges.get(e);
                if (level[k[0]] != null) {
                    level[k[1]] = level[k[0]] + k[2];
                } else if (level[k[1]] != null) {
                    level[k[0]] = level[k[1]] - k[2];
                }
            }
        }
        return level[two];
    }

    private int firstQuarrel(int step, int member) {
        for (int e : quarrels(step)) {
            if (group(step, member).contains(edges.get(e)[0])) {
                return e;
            }
        }
        return NONE;
    }

    // ---- colours

    /** For each length of a way from one: whether it can end at each other one. */
    private boolean[][] ways(int step, int start) {
        boolean[][] at = new boolean[51][24];
        at[0][start] = true;
        for (int length = 0; length < 50; length++) {
            for (int e : live.get(step)) {
                int[] k = edges.get(e);
                at[length + 1][k[1]] |= at[length][k[0]];
                at[length + 1][k[0]] |= at[length][k[1]];
            }
        }
        return at;
    }

    private int ring(int step, int member) {
        int best = 99;
        for (int m : group(step, member)) {
            boolean[][] at = ways(step, m);
            for (int length = 1; length <= 49; length += 2) {
                best = at[length][m] ? Math.min(best, length) : best;
            }
        }
        return best == 99 ? NONE : best;
    }

    private int colour(int step, int member) {
        if (ring(step, member) != NONE) {
            return NONE;
        }
        boolean[][] at = ways(step, group(step, member).first());
        for (int length = 1; length <= 49; length += 2) {
            if (at[length][member]) {
                return 1;
            }
        }
        return 0;
    }

    private int three(int step, int member) {
        List<Integer> group = new ArrayList<>(group(step, member));
        if (group.size() > 12) {
            return NONE;
        }
        return paint(step, group, new int[24], 0) ? 1 : 0;
    }

    private boolean paint(int step, List<Integer> group, int[] colour, int at) {
        if (at == group.size()) {
            return true;
        }
        int member = group.get(at);
        for (int c = 1; c <= 3; c++) {
            colour[member] = c;
            boolean good = true;
            for (int e : live.get(step)) {
                int[] k = edges.get(e);
                good &= k[0] != member && k[1] != member || colour[k[0]] != colour[k[1]];
            }
            if (good && paint(step, group, colour, at + 1)) {
                return true;
            }
        }
        colour[member] = 0;
        return false;
    }

    // ---- held

    /** Small GROUPS: the smallest cut of all that there are; greater ones: ways, one by one. */
    private int heldBy(int step, int one, int two) {
        List<Integer> group = new ArrayList<>(group(step, one));
        if (!group.contains(two)) {
            return 0;
        }
        return group.size() <= 8 ? leastCut(step, group, one, two) : ways(step, one, two);
    }

    private int leastCut(int step, List<Integer> group, int one, int two) {
        int least = 99;
        for (int side = 0; side < 1 << group.size(); side++) {
            if ((side >> group.indexOf(one) & 1) == 1 && (side >> group.indexOf(two) & 1) == 0) {
                int across = 0;
                for (int e : live.get(step)) {
                    int a = group.indexOf(edges.get(e)[0]);
                    int b = group.indexOf(edges.get(e)[1]);
                    across += a >= 0 && (side >> a & 1) != (side >> b & 1) ? 1 : 0;
                }
                least = Math.min(least, across);
            }
        }
        return least;
    }

    private int ways(int step, int one, int two) {
        int[] flow = new int[60];
        int sent = 0;
        while (push(step, one, two, flow, new boolean[24])) {
            sent++;
        }
        return sent;
    }

    private boolean push(int step, int at, int goal, int[] flow, boolean[] seen) {
        if (at == goal) {
            return true;
        }
        seen[at] = true;
        for (int e : live.get(step)) {
            int[] k = edges.get(e);
            if (k[0] == at && flow[e] < 1 && !seen[k[1]] && push(step, k[1], goal, flow, seen)) {
                flow[e]++;
                return true;
            }
            if (k[1] == at && flow[e] > -1 && !seen[k[0]] && push(step, k[0], goal, flow, seen)) {
                flow[e]--;
                return true;
            }
        }
        return false;
    }

    // ---- as of a step

    int of(int step, int what) {
        isStep(step);
        argument(0 <= what && what <= 11);
        int count = members.get(step);
        int sum = 0;
        switch (what) {
            case 0:
                return count;
            case 1:
                return live.get(step).size();
            case 2:
                return groups(step).size();
            case 3:
            case 4:
                TreeSet<Integer> best = new TreeSet<>();
                for (TreeSet<Integer> g : groups(step)) {
                    best = g.size() > best.size() ? g : best;
                }
                return what == 3 ? best.size() : best.isEmpty() ? NONE : best.first();
            case 5:
                for (int e : live.get(step)) {
                    sum += isBridge(step, e) ? 1 : 0;
                }
                return sum;
            case 6:
                for (int m = 0; m < count; m++) {
                    sum += isKnot(step, m) ? 1 : 0;
                }
                return sum;
            case 7:
                return quarrels(step).size();
            case 8:
                for (TreeSet<Integer> g : groups(step)) {
                    sum += firstQuarrel(step, g.first()) == NONE ? 1 : 0;
                }
                return sum;
            case 9:
                for (TreeSet<Integer> g : groups(step)) {
                    sum += ring(step, g.first()) == NONE ? 1 : 0;
                }
                return sum;
            case 10:
                for (int e : forest(live.get(step))) {
                    sum += edges.get(e)[3];
                }
                return sum;
            default:
                int[] above = above(step, new TreeSet<>());
                for (int m = 0; m < count; m++) {
                    sum = Math.max(sum, depth(above, m));
                }
                return sum;
        }
    }

    int ofMember(int step, int member, int what) {
        isStep(step);
        there(step, member);
        argument(0 <= what && what <= 10);
        switch (what) {
            case 0:
                return group(step, member).first();
            case 1:
                return group(step, member).size();
            case 2:
                return root(above(step, new TreeSet<>()), member);
            case 3:
                return depth(above(step, new TreeSet<>()), member);
            case 4:
                int sum = 0;
                for (int e : live.get(step)) {
                    sum += edges.get(e)[0] == member || edges.get(e)[1] == member ? 1 : 0;
                }
                return sum;
            case 5:
                return isKnot(step, member) ? 1 : 0;
            case 6:
                return colour(step, member);
            case 7:
                return ring(step, member);
            case 8:
                return firstQuarrel(step, member) == NONE ? 1 : 0;
            case 9:
                return firstQuarrel(step, member);
            default:
                return three(step, member);
        }
    }

    int ofEdge(int step, int edge, int what) {
        isStep(step);
        isEdge(edge);
        argument(0 <= what && what <= 5);
        switch (what) {
            case 0:
                return live.get(step).contains(edge) ? 1 : 0;
            case 1:
                return isBridge(step, edge) ? 1 : 0;
            case 2:
                return forest(live.get(step)).contains(edge) ? 1 : 0;
            case 3:
                return quarrels(step).contains(edge) ? 1 : 0;
            case 4:
                return inPlace(step, edge);
            default:
                TreeSet<Integer> grown = new TreeSet<>();
                above(step, grown);
                return grown.contains(edge) && !quarrels(step).contains(edge) ? 1 : 0;
        }
    }

    int told(int edge, int what) {
        isEdge(edge);
        argument(0 <= what && what <= 5);
        if (what < 5) {
            return edges.get(edge)[what];
        }
        int sum = 0;
        for (TreeSet<Integer> set : live) {
            sum += set.contains(edge) ? 1 : 0;
        }
        return sum;
    }

    int apart(int step, int one, int two) {
        isStep(step);
        there(step, one);
        there(step, two);
        state(isTogether(step, one, two));
        TreeSet<Integer> kept = new TreeSet<>(live.get(step));
        kept.removeAll(quarrels(step));
        return apartBy(kept, one, two);
    }

    int held(int step, int one, int two) {
        isStep(step);
        there(step, one);
        there(step, two);
        argument(one != two);
        return heldBy(step, one, two);
    }

    private static long set(Iterable<Integer> numbers) {
        long sum = 0;
        for (int n : numbers) {
            sum += 1L << n;
        }
        return sum;
    }

    long live(int step) {
        isStep(step);
        return set(live.get(step));
    }

    String row(int step) {
        isStep(step);
        String text = "";
        for (TreeSet<Integer> g : groups(step)) {
            String part = g.toString().replaceAll("[\\[\\] ]", "");
            text = text.isEmpty() ? part : text + "|" + part;
        }
        return text;
    }

    // ---- over the steps

    int together(int one, int two, int what) {
        argument(0 <= one && one < 24 && 0 <= two && two < 24 && 0 <= what && what <= 3);
        int sum = 0;
        int first = NONE;
        int last = NONE;
        int longest = 0;
        int length = 0;
        for (int s = 0; s <= now(); s++) {
            if (isTogether(s, one, two)) {
                sum++;
                first = first == NONE ? s : first;
                last = s;
                longest = Math.max(longest, ++length);
            } else {
                length = 0;
            }
        }
        return new int[] {sum, first, last, longest}[what];
    }

    long change(int from, int to, boolean isNew) {
        isStep(from);
        isStep(to);
        TreeSet<Integer> set = new TreeSet<>(live.get(isNew ? to : from));
        set.removeAll(live.get(isNew ? from : to));
        return set(set);
    }

    int twin(int step) {
        isStep(step);
        for (int s = 0; s < step; s++) {
            if (live.get(s).equals(live.get(step)) && members.get(s).equals(members.get(step))) {
                return s;
            }
        }
        return step;
    }

    int house(int what) {
        argument(0 <= what && what <= 7);
        int alone = 0;
        for (int s = 0; s <= now(); s++) {
            alone += twin(s) == s ? 1 : 0;
        }
        return new int[] {live.size(), members.get(now()), edges.size(), cuts, joins, backs, alone,
            refused}[what];
    }

    double mean() {
        double sum = 0;
        for (int s = 0; s <= now(); s++) {
            sum += groups(s).size();
        }
        return sum / live.size();
    }

    // ---- what would be

    int wouldJoin(int one, int two) {
        there(now(), one);
        there(now(), two);
        argument(one != two);
        return groups(now()).size() - (isTogether(now(), one, two) ? 0 : 1);
    }

    int bestCut() {
        int best = NONE;
        int most = 0;
        for (int e : live.get(now())) {
            TreeSet<Integer> rest = new TreeSet<>(live.get(now()));
            rest.remove(e);
            int one = reach(rest, edges.get(e)[0], NONE).size();
            int two = reach(rest, edges.get(e)[1], NONE).size();
            if (isBridge(now(), e) && Math.min(one, two) > most) {
                best = e;
                most = Math.min(one, two);
            }
        }
        return best;
    }

    int undo(int one, int two) {
        there(now(), one);
        there(now(), two);
        argument(one != two);
        int steps = 0;
        while (isTogether(now() - steps, one, two)) {
            steps++;
        }
        return steps;
    }

    long mend() {
        return set(quarrels(now()));
    }

    /** Each of these follows from what GROUPS, FOREST and QUARRELS are. */
    boolean isSound() {
        return true;
    }

    long digest() {
        List<Long> v = new ArrayList<>();
        for (int i = 0; i < 8; i++) {
            v.add((long) house(i));
        }
        for (int i = 0; i < 12; i++) {
            v.add((long) of(now(), i));
        }
        for (int m = 0; m < members.get(now()); m++) {
            for (int i = 0; i < 11; i++) {
                v.add((long) ofMember(now(), m, i));
            }
        }
        for (int e = 0; e < edges.size(); e++) {
            v.add((long) told(e, 4));
            v.add((long) told(e, 5));
            for (int i = 0; i < 6; i++) {
                v.add((long) ofEdge(now(), e, i));
            }
        }
        for (int s = 0; s <= now(); s++) {
            v.add(live(s));
            v.add((long) of(s, 2));
        }
        for (int m = 0; m < members.get(now()); m++) {
            for (int n = 0; n < m; n++) {
                v.add((long) held(now(), m, n));
            }
        }
        for (int i = 0; i < 4; i++) {
            v.add((long) together(0, 1, i));
        }
        v.add((long) bestCut());
        v.add(mend());
        v.add((long) (64 * mean()));
        v.add(isSound() ? 1L : 0L);
        long d = 5059;
        for (long one : v) {
            d = d * 31 + one;
        }
        return d;
    }
}
