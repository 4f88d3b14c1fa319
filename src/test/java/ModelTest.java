import java.util.function.Supplier;

/** Runs of calls, the same ones each time, whose answers are compared with those of the Model. */
public final class ModelTest {
    private static long seed;

    private static int below(int bound) {
        seed = seed * 6364136223846793005L + 1442695040888963407L;
        return (int) ((seed >>> 33) % bound);
    }

    public static void main(String[] args) {
        for (int run = 0; run < 160; run++) {
            seed = run * 7919L + 17;
            follow(run, 40 + below(120), 2 + below(23));
        }
        for (int run = 0; run < 6; run++) {
            seed = run * 104729L + 5;
            follow(1000 + run, 505, 3 + below(22));
        }
        Due.end();
    }

    /** How often acts are chosen, so that there are long histories and wide ones. */
    private static void follow(int run, int calls, int wanted) {
        Undogroups x = new Undogroups();
        Model y = new Model();
        int spread = below(3);
        int acts = 2 + below(7);
        for (int i = 0; i < calls; i++) {
            String name = "run " + run + ", call " + i + ": ";
            if (y.members.get(y.now()) < wanted && below(3) > 0) {
                same(name + "member()", () -> x.member(), () -> y.member());
            } else if (below(10) < acts) {
                act(name, x, y, spread);
            } else if (below(2) == 0) {
                askOfStep(name, x, y);
            } else {
                askMore(name, x, y);
            }
        }
        same("run " + run + ": digest()", () -> x.digest(), () -> y.digest());
    }

    private static void same(String call, Supplier<Object> got, Supplier<Object> due) {
        Due.text(call, answer(got), answer(due));
    }

    private static String answer(Supplier<Object> call) {
        try {
            return String.valueOf(call.get());
        } catch (RuntimeException e) {
            return "throws " + e.getClass().getName();
        }
    }

    /** Mostly a number that is there, now and then one that is just outside or far off. */
    private static int number(int count) {
        int chance = below(40);
        if (chance == 0) {
            return -1;
        }
        if (chance == 1) {
            return count;
        }
        if (chance == 2) {
            return new int[] {Integer.MIN_VALUE, Integer.MAX_VALUE, 24, 60, 250, 1000}[below(6)];
        }
        return count == 0 ? 0 : below(count);
    }

    private static int member(Model y) {
        return number(y.members.get(y.now()));
    }

    private static int edge(Model y) {
        return number(y.edges.size());
    }

    /** Half of the time NOW, as there is most to be seen. */
    private static int step(Model y) {
        return below(2) == 0 ? y.now() : number(y.live.size());
    }

    private static void act(String name, Undogroups x, Model y, int spread) {
        int kind = below(12);
        if (kind < 5) {
            int from = member(y);
            int to = spread == 0 && from >= 0 && from < 20 ? from + 1 : member(y);
            int difference = spread == 1 ? below(3) - 1 : number(199) - 99;
            int cost = spread == 2 ? number(100) : below(4);
            same(name + "edge(" + from + ", " + to + ", " + difference + ", " + cost + ")",
                    () -> x.edge(from, to, difference, cost), () -> y.edge(from, to, difference, cost));
        } else if (kind < 8) {
            int edge = edge(y);
            same(name + "cut(" + edge + ")", () -> x.cut(edge), () -> y.cut(edge));
        } else if (kind < 10) {
            int edge = edge(y);
            same(name + "join(" + edge + ")", () -> x.join(edge), () -> y.join(edge));
        } else if (kind == 10) {
            int step = y.live.size() - 1 - below(Math.min(6, y.live.size()));
            int to = below(3) == 0 ? number(y.live.size()) : step;
            same(name + "back(" + to + ")", () -> x.back(to), () -> y.back(to));
        } else if (below(3) == 0) {
            same(name + "call()", () -> x.call(), () -> y.call());
        } else {
            same(name + "member()", () -> x.member(), () -> y.member());
        }
    }

    private static void askOfStep(String name, Undogroups x, Model y) {
        int step = step(y);
        int one = member(y);
        int two = member(y);
        int edge = edge(y);
        String at = name + "step " + step + ", members " + one + ", " + two + ", edge " + edge + ": ";
        int what = number(12);
        switch (below(8)) {
            case 0:
                same(at + "of " + what, () -> x.of(step, what), () -> y.of(step, what));
                break;
            case 1:
                same(at + "ofMember " + what, () -> x.ofMember(step, one, what),
                        () -> y.ofMember(step, one, what));
                break;
            case 2:
                int part = what > 6 ? what - 6 : what;
                same(at + "ofEdge " + part, () -> x.ofEdge(step, edge, part), () -> y.ofEdge(step, edge, part));
                break;
            case 3:
                int fact = what > 6 ? what - 6 : what;
                same(at + "told " + fact, () -> x.told(edge, fact), () -> y.told(edge, fact));
                break;
            case 4:
                same(at + "apart", () -> x.apart(step, one, two), () -> y.apart(step, one, two));
                break;
            case 5:
                same(at + "held", () -> x.held(step, one, two), () -> y.held(step, one, two));
                break;
            case 6:
                same(at + "live", () -> x.live(step), () -> y.live(step));
                break;
            default:
                same(at + "row", () -> x.row(step), () -> y.row(step));
        }
    }

    private static void askMore(String name, Undogroups x, Model y) {
        int step = step(y);
        int other = step(y);
        int one = member(y);
        int two = member(y);
        int what = number(8);
        String at = name + "steps " + step + ", " + other + ", members " + one + ", " + two + ": ";
        switch (below(12)) {
            case 0:
                int part = what > 4 ? what - 4 : what;
                same(at + "together " + part, () -> x.together(one, two, part), () -> y.together(one, two, part));
                break;
            case 1:
                same(at + "change new", () -> x.change(step, other, true), () -> y.change(step, other, true));
                break;
            case 2:
                same(at + "change old", () -> x.change(step, other, false), () -> y.change(step, other, false));
                break;
            case 3:
                same(at + "twin", () -> x.twin(step), () -> y.twin(step));
                break;
            case 4:
                same(at + "house " + what, () -> x.house(what), () -> y.house(what));
                break;
            case 5:
                same(at + "mean", () -> x.mean(), () -> y.mean());
                break;
            case 6:
                same(at + "wouldJoin", () -> x.wouldJoin(one, two), () -> y.wouldJoin(one, two));
                break;
            case 7:
                same(at + "bestCut", () -> x.bestCut(), () -> y.bestCut());
                break;
            case 8:
                same(at + "undo", () -> x.undo(one, two), () -> y.undo(one, two));
                break;
            case 9:
                same(at + "mend", () -> x.mend(), () -> y.mend());
                break;
            case 10:
                same(at + "digest", () -> x.digest(), () -> y.digest());
                break;
            default:
                same(at + "isSound", () -> x.isSound(), () -> y.isSound());
        }
    }
}
