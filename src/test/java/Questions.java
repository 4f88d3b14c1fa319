import java.util.ArrayList;
import java.util.Arrays;
import java.util.List;

/** All that can be asked of a house without an exception; of a great one by some of its numbers. */
final class Questions {
    private static final int FEW = 13;

    private final Model model;
    private final List<Call> calls = new ArrayList<>();

    private Questions(Model model) {
        this.model = model;
    }

    static List<Call> about(Model model) {
        Questions all = new Questions(model);
        for (int step : numbers(model.live.size())) {
            all.ofStep(step);
        }
        all.ofEdges();
        all.overSteps();
        all.now();
        return all.calls;
    }

    /** All numbers below a bound, or if these are many the outmost ones and the middle. */
    static int[] numbers(int bound) {
        if (bound > FEW) {
            return new int[] {0, 1, bound / 2, bound - 2, bound - 1};
        }
        int[] all = new int[bound];
        for (int i = 0; i < bound; i++) {
            all[i] = i;
        }
        return all;
    }

    private void put(String name, Object... arguments) {
        StringBuilder text = new StringBuilder(name).append('(');
        for (int i = 0; i < arguments.length; i++) {
            text.append(i > 0 ? ", " : "").append(arguments[i]);
        }
        calls.add(Call.of(text.append(')').toString()));
    }

    private void putEach(int most, String name, Object... arguments) {
        Object[] longer = Arrays.copyOf(arguments, arguments.length + 1);
        for (int what = 0; what <= most; what++) {
            longer[arguments.length] = what;
            put(name, longer);
        }
    }

    private void ofStep(int step) {
        putEach(11, "of", step);
        put("live", step);
        put("row", step);
        put("twin", step);
        int[] members = numbers(model.members.get(step));
        for (int one : members) {
            putEach(10, "ofMember", step, one);
            for (int two : members) {
                if (isTogether(step, one, two)) {
                    put("apart", step, one, two);
                }
                if (one != two) {
                    put("held", step, one, two);
                }
            }
        }
        for (int edge : numbers(model.edges.size())) {
            putEach(5, "ofEdge", step, edge);
        }
    }

    private boolean isTogether(int step, int one, int two) {
        return model.ofMember(step, one, 0) == model.ofMember(step, two, 0);
    }

    private void ofEdges() {
        for (int edge : numbers(model.edges.size())) {
            putEach(5, "told", edge);
        }
    }

    private void overSteps() {
        int[] steps = numbers(model.live.size());
        for (int from : steps) {
            for (int to : steps) {
                put("change", from, to, true);
                put("change", from, to, false);
            }
        }
        for (int one : new int[] {0, 1, 2, 3, 23}) {
            for (int two : new int[] {0, 1, 2, 22, 23}) {
                putEach(3, "together", one, two);
            }
        }
        putEach(7, "house");
        put("mean");
    }

    private void now() {
        int[] members = numbers(model.members.get(model.now()));
        for (int one : members) {
            for (int two : members) {
                if (one != two) {
                    put("wouldJoin", one, two);
                    put("undo", one, two);
                }
            }
        }
        put("bestCut");
        put("mend");
        put("isSound");
        put("digest");
    }
}
