/** Sets that join and come apart, and remember. */
public final class Undogroups {
    private static final int NONE = -1;
    private static final int MOST_MEMBERS = 24;
    private static final int MOST_EDGES = 60;
    private static final int MOST_STEPS = 250;
    private static final int MOST_DIFFERENCE = 99;
    private static final int MOST_COST = 99;
    private static final int MOST_FOR_THREE = 12;
    private static final long DIGEST_START = 5059L;

    private final Book book;
    private final Past past;
    private final Trees trees;
    private final Trees cheapest;
    private final Forest forest;
    private final Web web;
    private final Knots knots;
    private final Colours colours;
    private final Flow flow;
    private int cuts;
    private int joins;
    private int backs;
    private int refused;

    public Undogroups() {
        book = new Book();
        past = new Past();
        trees = new Trees();
        cheapest = new Trees();
        forest = new Forest();
        web = new Web();
        knots = new Knots();
        colours = new Colours();
        flow = new Flow();
    }

    // ---- acts

    public int member() throws IllegalStateException {
        int number = membersNow();
        if (number >= MOST_MEMBERS) {
            throw new IllegalStateException("as many members as there can be");
        }
        needRoomForStep();
        makeStep(liveNow(), number + 1);
        return number;
    }

    public int edge(int from, int to, int difference, int cost)
            throws IndexOutOfBoundsException, IllegalArgumentException, IllegalStateException {
        needMember(now(), from);
        needMember(now(), to);
        needOther(from, to);
        if (difference < -MOST_DIFFERENCE || difference > MOST_DIFFERENCE) {
            throw new IllegalArgumentException("no such difference");
        }
        if (cost < 0 || cost > MOST_COST) {
            throw new IllegalArgumentException("no such cost");
        }
        if (book.count >= MOST_EDGES) {
            throw new IllegalStateException("as many edges as there can be");
        }
        needRoomForStep();
        int number = book.write(from, to, difference, cost, past.count);
        makeStep(liveNow() | bit(number), membersNow());
        return number;
    }

    public int cut(int edge) throws IndexOutOfBoundsException, IllegalStateException {
        needEdge(edge);
        if (!has(liveNow(), edge)) {
            throw new IllegalStateException("the edge is not live");
        }
        needRoomForStep();
        cuts++;
        return past.groups[makeStep(liveNow() & ~bit(edge), membersNow())];
    }

    public int join(int edge) throws IndexOutOfBoundsException, IllegalStateException {
        needEdge(edge);
        if (has(liveNow(), edge)) {
            throw new IllegalStateException("the edge is live");
        }
        if (has(book.beyond[membersNow()], edge)) {
            throw new IllegalStateException("a member of the edge is not there");
        }
        needRoomForStep();
        joins++;
        return past.groups[makeStep(liveNow() | bit(edge), membersNow())];
    }

    public int back(int step) throws IndexOutOfBoundsException, IllegalStateException {
        needStep(step);
        needRoomForStep();
        backs++;
        return makeStep(past.live[step], past.members[step]);
    }

    public int call() {
        refused++;
        return refused;
    }

    // ---- as of a step

    public int of(int step, int what) throws IndexOutOfBoundsException, IllegalArgumentException {
        needStep(step);
        switch (what) {
            case 0:
                return past.members[step];
            case 1:
                return Long.bitCount(past.live[step]);
            case 2:
                return past.groups[step];
            case 3:
                return greatest(step, true);
            case 4:
                return greatest(step, false);
            case 5:
                return Long.bitCount(forestAt(step).bridges);
            case 6:
                return Integer.bitCount(knotsAt(step).members);
            case 7:
                return Long.bitCount(past.quarrels[step]);
            case 8:
                return past.groups[step] - Integer.bitCount(unfairGroups(step));
            case 9:
                return Integer.bitCount(coloursAt(step).even);
            case 10:
                return book.costOf(past.forest[step]);
            case 11:
                return greatestDepth(step);
            default:
                throw new IllegalArgumentException("no such question");
        }
    }

    public int ofMember(int step, int member, int what)
            throws IndexOutOfBoundsException, IllegalArgumentException {
        needStep(step);
        needMember(step, member);
        int group = past.groupOf[step][member];
        switch (what) {
            case 0:
                return group;
            case 1:
                return Integer.bitCount(past.crowd(step, group));
            case 2:
                return treesAt(step).rootOf(member);
            case 3:
                return treesAt(step).depthOf(member);
            case 4:
                return Long.bitCount(past.live[step] & book.touching[member]);
            case 5:
                return asNumber(has(knotsAt(step).members, member));
            case 6:
                return coloursAt(step).colourOf(member, group);
            case 7:
                return coloursAt(step).ring[group];
            case 8:
                return asNumber(firstQuarrel(step, group) == NONE);
            case 9:
                return firstQuarrel(step, group);
            case 10:
                return coloursAt(step).three[group];
            default:
                throw new IllegalArgumentException("no such question");
        }
    }

    public int ofEdge(int step, int edge, int what)
            throws IndexOutOfBoundsException, IllegalArgumentException {
        needStep(step);
        needEdge(edge);
        switch (what) {
            case 0:
                return asNumber(has(past.live[step], edge));
            case 1:
                return asNumber(has(forestAt(step).bridges, edge));
            case 2:
                return asNumber(has(past.forest[step], edge));
            case 3:
                return asNumber(has(past.quarrels[step], edge));
            case 4:
                return forestAt(step).spare[edge];
            case 5:
                return asNumber(has(past.grown[step], edge));
            default:
                throw new IllegalArgumentException("no such question");
        }
    }

    public int told(int edge, int what) throws IndexOutOfBoundsException, IllegalArgumentException {
        needEdge(edge);
        switch (what) {
            case 0:
                return book.from[edge];
            case 1:
                return book.to[edge];
            case 2:
                return book.difference[edge];
            case 3:
                return book.cost[edge];
            case 4:
                return book.step[edge];
            case 5:
                return book.stepsLive[edge];
            default:
                throw new IllegalArgumentException("no such question");
        }
    }

    public int apart(int step, int one, int two)
            throws IndexOutOfBoundsException, IllegalStateException {
        needStep(step);
        needMember(step, one);
        needMember(step, two);
        if (!past.areTogether(step, one, two)) {
            throw new IllegalStateException("they are not together");
        }
        Trees levels = treesAt(step);
        return levels.levelOf(two) - levels.levelOf(one);
    }

    public int held(int step, int one, int two)
            throws IndexOutOfBoundsException, IllegalArgumentException {
        needStep(step);
        needMember(step, one);
        needMember(step, two);
        needOther(one, two);
        if (flow.step != step) {
            flow.read(step, book, past);
        }
        return flow.fewest[one][two];
    }

    public long live(int step) throws IndexOutOfBoundsException {
        needStep(step);
        return past.live[step];
    }

    public String row(int step) throws IndexOutOfBoundsException {
        needStep(step);
        StringBuilder text = new StringBuilder();
        for (int group = 0; group < past.members[step]; group++) {
            if (past.groupOf[step][group] == group) {
                if (group > 0) {
                    text.append('|');
                }
                writeGroup(text, step, group);
            }
        }
        return text.toString();
    }

    // ---- over the steps

    public int together(int one, int two, int what) throws IllegalArgumentException {
        needMemberNumber(one);
        needMemberNumber(two);
        switch (what) {
            case 0:
                return stepsTogether(one, two);
            case 1:
                return firstTogether(one, two);
            case 2:
                return lastTogether(one, two);
            case 3:
                return longestTogether(one, two);
            default:
                throw new IllegalArgumentException("no such question");
        }
    }

    public long change(int from, int to, boolean isNew) throws IndexOutOfBoundsException {
        needStep(from);
        needStep(to);
        return isNew ? past.live[to] & ~past.live[from] : past.live[from] & ~past.live[to];
    }

    public int twin(int step) throws IndexOutOfBoundsException {
        needStep(step);
        return past.first[step];
    }

    public int house(int what) throws IllegalArgumentException {
        switch (what) {
            case 0:
                return past.count;
            case 1:
                return membersNow();
            case 2:
                return book.count;
            case 3:
                return cuts;
            case 4:
                return joins;
            case 5:
                return backs;
            case 6:
                return past.stepsWithoutEarlierTwin();
            case 7:
                return refused;
            default:
                throw new IllegalArgumentException("no such question");
        }
    }

    public double mean() {
        int sum = 0;
        for (int step = 0; step < past.count; step++) {
            sum += past.groups[step];
        }
        return (double) sum / (double) past.count;
    }

    // ---- what would be

    public int wouldJoin(int one, int two)
            throws IndexOutOfBoundsException, IllegalArgumentException {
        needMember(now(), one);
        needMember(now(), two);
        needOther(one, two);
        int groups = past.groups[now()];
        return past.areTogether(now(), one, two) ? groups : groups - 1;
    }

    public int bestCut() {
        Forest trunk = forestAt(now());
        int best = NONE;
        int most = 0;
        for (int edge = 0; edge < book.count; edge++) {
            if (has(trunk.bridges, edge)) {
                int smaller = smallerPart(trunk, edge);
                if (smaller > most) {
                    best = edge;
                    most = smaller;
                }
            }
        }
        return best;
    }

    public int undo(int one, int two) throws IndexOutOfBoundsException, IllegalArgumentException {
        needMember(now(), one);
        needMember(now(), two);
        needOther(one, two);
        int steps = 0;
        for (int step = now(); step >= 0 && past.areTogether(step, one, two); step--) {
            steps++;
        }
        return steps;
    }

    public long mend() {
        return past.quarrels[now()];
    }

    public boolean isSound() {
        for (int step = 0; step < past.count; step++) {
            if (!isStepSound(step)) {
                return false;
            }
        }
        return (forestAt(now()).bridges & ~past.forest[now()]) == 0L;
    }

    public long digest() {
        int now = now();
        long d = DIGEST_START;
        for (int what = 0; what <= 7; what++) {
            d = mix(d, house(what));
        }
        for (int what = 0; what <= 11; what++) {
            d = mix(d, of(now, what));
        }
        for (int member = 0; member < past.members[now]; member++) {
            for (int what = 0; what <= 10; what++) {
                d = mix(d, ofMember(now, member, what));
            }
        }
        for (int edge = 0; edge < book.count; edge++) {
            d = mix(mix(d, told(edge, 4)), told(edge, 5));
            for (int what = 0; what <= 5; what++) {
                d = mix(d, ofEdge(now, edge, what));
            }
        }
        for (int step = 0; step <= now; step++) {
            d = mix(mix(d, live(step)), of(step, 2));
        }
        for (int member = 0; member < past.members[now]; member++) {
            for (int smaller = 0; smaller < member; smaller++) {
                d = mix(d, held(now, member, smaller));
            }
        }
        for (int what = 0; what <= 3; what++) {
            d = mix(d, together(0, 1, what));
        }
        d = mix(mix(d, bestCut()), mend());
        d = mix(d, (long) (64.0 * mean()));
        return mix(d, asNumber(isSound()));
    }

    private static long mix(long d, long value) {
        return d * 31L + value;
    }

    // ---- what a call needs

    private void needStep(int step) {
        if (step < 0 || step >= past.count) {
            throw new IndexOutOfBoundsException("no such step");
        }
    }

    private void needMember(int step, int member) {
        if (member < 0 || member >= past.members[step]) {
            throw new IndexOutOfBoundsException("no such member");
        }
    }

    private void needEdge(int edge) {
        if (edge < 0 || edge >= book.count) {
            throw new IndexOutOfBoundsException("no such edge");
        }
    }

    private void needOther(int one, int two) {
        if (one == two) {
            throw new IllegalArgumentException("both are the same");
        }
    }

    private void needMemberNumber(int number) {
        if (number < 0 || number >= MOST_MEMBERS) {
            throw new IllegalArgumentException("no number of a member");
        }
    }

    private void needRoomForStep() {
        if (past.count >= MOST_STEPS) {
            throw new IllegalStateException("as many steps as there can be");
        }
    }

    // ---- steps

    private int now() {
        return past.count - 1;
    }

    private long liveNow() {
        return past.live[now()];
    }

    private int membersNow() {
        return past.members[now()];
    }

    /** Makes the next STEP; the caller has looked that there is room for it. */
    private int makeStep(long edges, int members) {
        int step = past.open(edges, members);
        book.countLive(edges);
        trees.growByNumber(book, edges, members);
        trees.step = step;
        cheapest.growByCost(book, edges, members);
        past.grown[step] = trees.grown;
        past.quarrels[step] = trees.quarrels;
        past.forest[step] = cheapest.grown;
        past.sortGroups(step, trees);
        return step;
    }

    // A STEP never changes, so what was found out of it can be used again.

    private Trees treesAt(int step) {
        if (trees.step != step) {
            trees.growByNumber(book, past.live[step], past.members[step]);
            trees.step = step;
        }
        return trees;
    }

    private Forest forestAt(int step) {
        if (forest.step != step) {
            forest.read(step, book, past);
        }
        return forest;
    }

    private Web webAt(int step) {
        if (web.step != step) {
            web.weave(book, past.live[step], past.members[step]);
            web.step = step;
        }
        return web;
    }

    private Knots knotsAt(int step) {
        if (knots.step != step) {
            knots.read(step, webAt(step), past);
        }
        return knots;
    }

    private Colours coloursAt(int step) {
        if (colours.step != step) {
            colours.read(step, webAt(step), past);
        }
        return colours;
    }

    // ---- parts of the answers

    private int greatest(int step, boolean wantsSize) {
        int number = NONE;
        int size = 0;
        for (int group = 0; group < past.members[step]; group++) {
            int members = past.groupOf[step][group] == group
                    ? Integer.bitCount(past.crowd(step, group)) : 0;
            if (members > size) {
                number = group;
                size = members;
            }
        }
        return wantsSize ? size : number;
    }

    private int greatestDepth(int step) {
        Trees grown = treesAt(step);
        int depth = 0;
        for (int member = 0; member < past.members[step]; member++) {
            depth = Math.max(depth, grown.depthOf(member));
        }
        return depth;
    }

    private int unfairGroups(int step) {
        int groups = 0;
        for (int edge = 0; edge < book.count; edge++) {
            if (has(past.quarrels[step], edge)) {
                groups |= 1 << past.groupOf[step][book.from[edge]];
            }
        }
        return groups;
    }

    private int firstQuarrel(int step, int group) {
        for (int edge = 0; edge < book.count; edge++) {
            if (has(past.quarrels[step], edge)
                    && past.groupOf[step][book.from[edge]] == group) {
                return edge;
            }
        }
        return NONE;
    }

    private void writeGroup(StringBuilder text, int step, int group) {
        for (int member = group; member < past.members[step]; member++) {
            if (past.groupOf[step][member] == group) {
                if (member > group) {
                    text.append(',');
                }
                text.append(member);
            }
        }
    }

    private int stepsTogether(int one, int two) {
        int steps = 0;
        for (int step = 0; step < past.count; step++) {
            if (past.areTogether(step, one, two)) {
                steps++;
            }
        }
        return steps;
    }

    private int firstTogether(int one, int two) {
        for (int step = 0; step < past.count; step++) {
            if (past.areTogether(step, one, two)) {
                return step;
            }
        }
        return NONE;
    }

    private int lastTogether(int one, int two) {
        for (int step = now(); step >= 0; step--) {
            if (past.areTogether(step, one, two)) {
                return step;
            }
        }
        return NONE;
    }

    private int longestTogether(int one, int two) {
        int longest = 0;
        int length = 0;
        for (int step = 0; step < past.count; step++) {
            length = past.areTogether(step, one, two) ? length + 1 : 0;
            longest = Math.max(longest, length);
        }
        return longest;
    }

    private int smallerPart(Forest trunk, int bridge) {
        int group = past.groupOf[now()][book.from[bridge]];
        int all = Integer.bitCount(past.crowd(now(), group));
        int part = Integer.bitCount(trunk.side[bridge]);
        return Math.min(part, all - part);
    }

    private boolean isStepSound(int step) {
        int members = past.members[step];
        return (past.live[step] & book.beyond[members]) == 0L
                && members - Long.bitCount(past.forest[step]) == past.groups[step]
                && (past.quarrels[step] & past.grown[step]) == 0L;
    }

    // ---- sets

    private static long bit(int number) {
        return 1L << number;
    }

    private static boolean has(long set, int number) {
        return (set >>> number & 1L) != 0L;
    }

    private static int asNumber(boolean isSo) {
        return isSo ? 1 : 0;
    }

    /** The smallest number of a set that is not empty. */
    private static int smallest(int set) {
        return Integer.bitCount((set & -set) - 1);
    }

    /** The EDGES that were told ever. */
    private static final class Book {
        final int[] from = new int[MOST_EDGES];
        final int[] to = new int[MOST_EDGES];
        final int[] difference = new int[MOST_EDGES];
        final int[] cost = new int[MOST_EDGES];
        final int[] step = new int[MOST_EDGES];
        final int[] stepsLive = new int[MOST_EDGES];
        final int[] byCost = new int[MOST_EDGES];
        /** MEMBER by MEMBER the set of its EDGES. */
        final long[] touching = new long[MOST_MEMBERS];
        /** For each count of MEMBERS the set of EDGES with one that is not among so many. */
        final long[] beyond = new long[MOST_MEMBERS + 1];
        int count;

        int write(int start, int end, int rise, int price, int when) {
            int edge = count;
            from[edge] = start;
            to[edge] = end;
            difference[edge] = rise;
            cost[edge] = price;
            step[edge] = when;
            touching[start] |= bit(edge);
            touching[end] |= bit(edge);
            for (int members = 0; members <= Math.max(start, end); members++) {
                beyond[members] |= bit(edge);
            }
            rank(edge);
            count++;
            return edge;
        }

        /** Behind those of the same COST, as their numbers are smaller. */
        private void rank(int edge) {
            int place = edge;
            for (; place > 0 && cost[byCost[place - 1]] > cost[edge]; place--) {
                byCost[place] = byCost[place - 1];
            }
            byCost[place] = edge;
        }

        void countLive(long edges) {
            for (int edge = 0; edge < count; edge++) {
                if (has(edges, edge)) {
                    stepsLive[edge]++;
                }
            }
        }

        int costOf(long edges) {
            int sum = 0;
            for (int edge = 0; edge < count; edge++) {
                if (has(edges, edge)) {
                    sum += cost[edge];
                }
            }
            return sum;
        }
    }

    /** The STEPS, and what each of them keeps. */
    private static final class Past {
        final long[] live = new long[MOST_STEPS];
        final int[] members = new int[MOST_STEPS];
        final int[] groups = new int[MOST_STEPS];
        /** STEP by STEP the first one with the same EDGES and MEMBERS. */
        final int[] first = new int[MOST_STEPS];
        final long[] grown = new long[MOST_STEPS];
        final long[] quarrels = new long[MOST_STEPS];
        final long[] forest = new long[MOST_STEPS];
        /** STEP by STEP the GROUP of each MEMBER, NONE for one that is not there. */
        final int[][] groupOf = new int[MOST_STEPS][MOST_MEMBERS];
        int count;

        Past() {
            count = 1;
            for (int member = 0; member < MOST_MEMBERS; member++) {
                groupOf[0][member] = NONE;
            }
        }

        int open(long edges, int size) {
            int step = count;
            live[step] = edges;
            members[step] = size;
            first[step] = step;
            for (int earlier = step - 1; earlier >= 0; earlier--) {
                if (live[earlier] == edges && members[earlier] == size) {
                    first[step] = earlier;
                }
            }
            count++;
            return step;
        }

        void sortGroups(int step, Trees trees) {
            int[] row = groupOf[step];
            for (int member = 0; member < MOST_MEMBERS; member++) {
                row[member] = NONE;
            }
            groups[step] = 0;
            for (int member = 0; member < members[step]; member++) {
                if (row[member] == NONE) {
                    groups[step]++;
                    fillGroup(row, member, members[step], trees);
                }
            }
        }

        private void fillGroup(int[] row, int group, int size, Trees trees) {
            int root = trees.rootOf(group);
            for (int member = group; member < size; member++) {
                if (trees.rootOf(member) == root) {
                    row[member] = group;
                }
            }
        }

        boolean areTogether(int step, int one, int two) {
            int group = groupOf[step][one];
            return group != NONE && group == groupOf[step][two];
        }

        /** The set of the MEMBERS of a GROUP. */
        int crowd(int step, int group) {
            int set = 0;
            for (int member = 0; member < members[step]; member++) {
                if (groupOf[step][member] == group) {
                    set |= 1 << member;
                }
            }
            return set;
        }

        int stepsWithoutEarlierTwin() {
            int steps = 0;
            for (int step = 0; step < count; step++) {
                if (first[step] == step) {
                    steps++;
                }
            }
            return steps;
        }
    }

    /** TREES that grow EDGE by EDGE; the LEVELS hang on them. */
    private static final class Trees {
        /** The one on which a MEMBER hangs; a root hangs on itself. */
        final int[] above = new int[MOST_MEMBERS];
        final int[] size = new int[MOST_MEMBERS];
        /** The LEVEL of a MEMBER less that of the one above. */
        final int[] rise = new int[MOST_MEMBERS];
        int step = NONE;
        long grown;
        long quarrels;

        void growByNumber(Book book, long edges, int members) {
            plant(members);
            for (int edge = 0; edge < book.count; edge++) {
                if (has(edges, edge)) {
                    take(book, edge);
                }
            }
        }

        void growByCost(Book book, long edges, int members) {
            plant(members);
            for (int place = 0; place < book.count; place++) {
                if (has(edges, book.byCost[place])) {
                    take(book, book.byCost[place]);
                }
            }
        }

        private void plant(int members) {
            grown = 0L;
            quarrels = 0L;
            for (int member = 0; member < members; member++) {
                above[member] = member;
                size[member] = 1;
                rise[member] = 0;
            }
        }

        /** EDGES that are KEPT and grow nothing fit the LEVELS, so those that grew tell all. */
        private void take(Book book, int edge) {
            int from = book.from[edge];
            int to = book.to[edge];
            int start = rootOf(from);
            int end = rootOf(to);
            int gap = levelOf(from) + book.difference[edge] - levelOf(to);
            if (start != end) {
                grown |= bit(edge);
                if (size[start] < size[end] || size[start] == size[end] && start > end) {
                    hang(start, end, -gap);
                } else {
                    hang(end, start, gap);
                }
            } else if (gap != 0) {
                quarrels |= bit(edge);
            }
        }

        private void hang(int root, int other, int height) {
            above[root] = other;
            size[other] += size[root];
            rise[root] = height;
        }

        int rootOf(int member) {
            int at = member;
            for (int i = 0; i < MOST_MEMBERS && above[at] != at; i++) {
                at = above[at];
            }
            return at;
        }

        int depthOf(int member) {
            int at = member;
            int depth = 0;
            for (; depth < MOST_MEMBERS && above[at] != at; depth++) {
                at = above[at];
            }
            return depth;
        }

        /** The LEVEL of a MEMBER, if that of its root is 0. */
        int levelOf(int member) {
            int at = member;
            int level = 0;
            for (int i = 0; i < MOST_MEMBERS && above[at] != at; i++) {
                level += rise[at];
                at = above[at];
            }
            return level;
        }
    }

    /** Which MEMBERS are next to each other by a set of EDGES. */
    private static final class Web {
        final int[] near = new int[MOST_MEMBERS];
        int size;
        int step = NONE;

        void weave(Book book, long edges, int members) {
            size = members;
            for (int member = 0; member < members; member++) {
                near[member] = 0;
            }
            for (int edge = 0; edge < book.count; edge++) {
                if (has(edges, edge)) {
                    near[book.from[edge]] |= 1 << book.to[edge];
                    near[book.to[edge]] |= 1 << book.from[edge];
                }
            }
        }

        /** Those that are next to one of the set. */
        int around(int set) {
            int found = 0;
            for (int member = 0; member < size; member++) {
                if ((set >>> member & 1) != 0) {
                    found |= near[member];
                }
            }
            return found;
        }

        /** Those that can be reached by way of the allowed ones alone. */
        int reach(int start, int allowed) {
            int seen = 1 << start;
            int front = seen;
            for (int i = 0; i < MOST_MEMBERS && front != 0; i++) {
                front = around(front) & allowed & ~seen;
                seen |= front;
            }
            return seen;
        }
    }

    /** The FOREST as of a STEP: its BRIDGES, and what would be taken in an EDGE's place. */
    private static final class Forest {
        /** For each EDGE of the FOREST the MEMBERS that would stay with its first end. */
        final int[] side = new int[MOST_EDGES];
        final int[] spare = new int[MOST_EDGES];
        private final Web web = new Web();
        long bridges;
        int step = NONE;

        void read(int when, Book book, Past past) {
            step = when;
            bridges = 0L;
            web.weave(book, past.forest[when], past.members[when]);
            for (int edge = 0; edge < MOST_EDGES; edge++) {
                side[edge] = 0;
                spare[edge] = NONE;
            }
            long others = past.live[when] & ~past.forest[when];
            for (int edge = 0; edge < book.count; edge++) {
                if (has(past.forest[when], edge)) {
                    side[edge] = split(book.from[edge], book.to[edge]);
                    spare[edge] = cheapestAcross(book, others, side[edge]);
                    if (spare[edge] == NONE) {
                        bridges |= bit(edge);
                    }
                }
            }
        }

        private int split(int one, int two) {
            web.near[one] ^= 1 << two;
            web.near[two] ^= 1 << one;
            int part = web.reach(one, -1);
            web.near[one] ^= 1 << two;
            web.near[two] ^= 1 << one;
            return part;
        }

        private static int cheapestAcross(Book book, long edges, int part) {
            for (int place = 0; place < book.count; place++) {
                int edge = book.byCost[place];
                if (has(edges, edge) && has(part, book.from[edge]) != has(part, book.to[edge])) {
                    return edge;
                }
            }
            return NONE;
        }
    }

    /** The KNOTS as of a STEP. */
    private static final class Knots {
        int members;
        int step = NONE;

        void read(int when, Web web, Past past) {
            step = when;
            members = 0;
            for (int member = 0; member < past.members[when]; member++) {
                int others = past.crowd(when, past.groupOf[when][member]) & ~(1 << member);
                if (others != 0 && web.reach(smallest(others), others) != others) {
                    members |= 1 << member;
                }
            }
        }
    }

    /** The COLOURS, RINGS and THREES as of a STEP. */
    private static final class Colours {
        final int[] ring = new int[MOST_MEMBERS];
        final int[] three = new int[MOST_MEMBERS];
        private final int[] order = new int[MOST_FOR_THREE];
        /** The GROUPS that are EVEN. */
        int even;
        /** The MEMBERS with COLOUR 1 in those. */
        int second;
        int step = NONE;

        void read(int when, Web web, Past past) {
            step = when;
            even = 0;
            second = 0;
            for (int group = 0; group < past.members[when]; group++) {
                if (past.groupOf[when][group] == group) {
                    int crowd = past.crowd(when, group);
                    paint(web, group);
                    ring[group] = has(even, group) ? NONE : ringOf(web, crowd);
                    three[group] = threeOf(web, group, crowd);
                }
            }
        }

        /** In a GROUP that is EVEN no MEMBER is reached both by even and by odd ways. */
        private void paint(Web web, int group) {
            int zeros = 1 << group;
            int ones = 0;
            boolean grows = true;
            for (int i = 0; i < MOST_MEMBERS && grows; i++) {
                int before = zeros;
                ones |= web.around(zeros);
                zeros |= web.around(ones);
                grows = zeros != before;
            }
            if ((zeros & ones) == 0) {
                even |= 1 << group;
                second |= ones;
            }
        }

        private static int ringOf(Web web, int crowd) {
            int shortest = MOST_MEMBERS + 1;
            for (int member = 0; member < MOST_MEMBERS; member++) {
                if (has(crowd, member)) {
                    shortest = oddWay(web, member, shortest);
                }
            }
            return shortest;
        }

        /** How long the shortest odd way round from a MEMBER is, or the limit if none is shorter. */
        private static int oddWay(Web web, int member, int limit) {
            int ends = 1 << member;
            for (int length = 1; length < limit; length++) {
                ends = web.around(ends);
                if (length % 2 == 1 && has(ends, member)) {
                    return length;
                }
            }
            return limit;
        }

        private int threeOf(Web web, int group, int crowd) {
            int size = Integer.bitCount(crowd);
            if (size > MOST_FOR_THREE) {
                return NONE;
            }
            lineUp(web, group, size);
            return asNumber(canPaint(web.near, order, size, 0, 0, 0, 0));
        }

        /** Each one behind the first is next to an earlier one, so that few trials are needed. */
        private void lineUp(Web web, int group, int size) {
            int placed = 1 << group;
            order[0] = group;
            for (int place = 1; place < size; place++) {
                int next = web.around(placed) & ~placed;
                if (next != 0) {
                    order[place] = smallest(next);
                    placed |= 1 << order[place];
                }
            }
        }

        /** A colour is tried only where the ones before it are in use: those unused are alike. */
        private static boolean canPaint(int[] near, int[] order, int size, int place,
                int red, int green, int blue) {
            if (place >= size || place >= MOST_FOR_THREE) {
                return true;
            }
            int next = near[order[place]];
            int self = 1 << order[place];
            if ((next & red) == 0
                    && canPaint(near, order, size, place + 1, red | self, green, blue)) {
                return true;
            }
            if (red != 0 && (next & green) == 0
                    && canPaint(near, order, size, place + 1, red, green | self, blue)) {
                return true;
            }
            return green != 0 && (next & blue) == 0
                    && canPaint(near, order, size, place + 1, red, green, blue | self);
        }

        int colourOf(int member, int group) {
            if (!has(even, group)) {
                return NONE;
            }
            return asNumber(has(second, member));
        }
    }

    /**
     * HELD of all pairs as of a STEP. Instead of a flow for each pair there is one for each MEMBER
     * but the first, to a partner that is chosen as Gusfield does: the fewest of any pair is the
     * least on the way between both in the tree of partners.
     */
    private static final class Flow {
        final int[][] fewest = new int[MOST_MEMBERS][MOST_MEMBERS];
        private final int[][] links = new int[MOST_MEMBERS][MOST_MEMBERS];
        private final int[][] room = new int[MOST_MEMBERS][MOST_MEMBERS];
        /** MEMBER by MEMBER the set of those to which there is room. */
        private final int[] open = new int[MOST_MEMBERS];
        private final int[] partner = new int[MOST_MEMBERS];
        private final int[] queue = new int[MOST_MEMBERS];
        private final int[] before = new int[MOST_MEMBERS];
        private int size;
        private int seen;
        int step = NONE;

        void read(int when, Book book, Past past) {
            step = when;
            size = past.members[when];
            countLinks(book, past.live[when]);
            for (int member = 0; member < size; member++) {
                partner[member] = 0;
            }
            for (int member = 1; member < size; member++) {
                int most = send(member, partner[member]);
                choosePartners(member);
                fillRow(member, most);
            }
        }

        private void countLinks(Book book, long edges) {
            for (int one = 0; one < size; one++) {
                for (int two = 0; two < size; two++) {
                    links[one][two] = 0;
                }
            }
            for (int edge = 0; edge < book.count; edge++) {
                if (has(edges, edge)) {
                    links[book.from[edge]][book.to[edge]]++;
                    links[book.to[edge]][book.from[edge]]++;
                }
            }
        }

        private void choosePartners(int member) {
            for (int later = member + 1; later < size; later++) {
                if (partner[later] == partner[member] && has(seen, later)) {
                    partner[later] = member;
                }
            }
        }

        private void fillRow(int member, int most) {
            int other = partner[member];
            for (int earlier = 0; earlier < member; earlier++) {
                int least = earlier == other ? most : Math.min(most, fewest[other][earlier]);
                fewest[member][earlier] = least;
                fewest[earlier][member] = least;
            }
        }

        /** How many ways without a common EDGE there are; seen is then one side of the cut. */
        private int send(int source, int sink) {
            clearRoom();
            int sent = 0;
            for (; sent <= MOST_EDGES && findWay(source, sink); sent++) {
                int at = sink;
                for (int i = 0; i < MOST_MEMBERS && at != source; i++) {
                    useRoom(before[at], at);
                    at = before[at];
                }
            }
            return sent;
        }

        private void clearRoom() {
            for (int one = 0; one < size; one++) {
                open[one] = 0;
                for (int two = 0; two < size; two++) {
                    room[one][two] = links[one][two];
                    if (links[one][two] > 0) {
                        open[one] |= 1 << two;
                    }
                }
            }
        }

        private void useRoom(int from, int to) {
            room[from][to]--;
            if (room[from][to] == 0) {
                open[from] &= ~(1 << to);
            }
            room[to][from]++;
            open[to] |= 1 << from;
        }

        private boolean findWay(int source, int sink) {
            seen = 1 << source;
            queue[0] = source;
            int waiting = 1;
            for (int i = 0; i < waiting && i < size && !has(seen, sink); i++) {
                int fresh = open[queue[i]] & ~seen;
                seen |= fresh;
                for (int member = 0; member < size && fresh != 0; member++) {
                    if (has(fresh, member)) {
                        before[member] = queue[i];
                        queue[waiting] = member;
                        waiting++;
                        fresh &= ~(1 << member);
                    }
                }
            }
            return has(seen, sink);
        }
    }
}
