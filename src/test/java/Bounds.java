import java.lang.reflect.InvocationTargetException;
import java.lang.reflect.Method;
import java.lang.reflect.Modifier;
import java.util.ArrayList;
import java.util.List;
import java.util.TreeMap;

/** What the tests of boundary cases say of a Story; each of them is a method whose name begins with "promise". */
final class Bounds {
    /** As far out as a number can be, and just beyond the allowed ones. */
    static final int[] FAR = {Integer.MIN_VALUE, Integer.MIN_VALUE + 1, -2, -1, Integer.MAX_VALUE - 1,
        Integer.MAX_VALUE};
    private static final String[] NEXT_ACTS = {"member()", "edge(0, 1, 1, 1)", "edge(1, 0, -99, 99)", "cut(0)",
        "cut(1)", "join(0)", "join(1)", "back(0)", "back(2)", "call()"};
    private static String promise = "";

    private Bounds() {
    }

    /** Runs all tests of a class by their names, so that none can be left out. */
    static void run(Class<?> tests) {
        TreeMap<String, Method> found = new TreeMap<>();
        for (Method method : tests.getDeclaredMethods()) {
            if (Modifier.isStatic(method.getModifiers()) && method.getName().startsWith("promise")) {
                found.put(method.getName(), method);
            }
        }
        for (Method method : found.values()) {
            promise = method.getName() + ": ";
            try {
                method.invoke(null);
            } catch (InvocationTargetException | IllegalAccessException e) {
                Due.text(promise, String.valueOf(e.getCause()), "no exception");
            }
        }
        Due.is("there are tests in " + tests, !found.isEmpty(), true);
        Due.end();
    }

    /** From -1 outwards and from the first number that is too great outwards. */
    static int[] outside(int count) {
        int[] all = {Integer.MIN_VALUE, Integer.MIN_VALUE + 1, -2, -1, count, count + 1, 24, 60, 250, 1 << 20,
            Integer.MAX_VALUE - 1, Integer.MAX_VALUE};
        List<Integer> kept = new ArrayList<>();
        for (int number : all) {
            if (number < 0 || number >= count) {
                kept.add(number);
            }
        }
        return kept.stream().mapToInt(Integer::intValue).toArray();
    }

    /** The call is made behind the story, and answers this. */
    static void due(Story story, String call, Object want) {
        same(call, Call.of(call).on(story.tell()), want);
    }

    /** An answer that the test has asked for itself. */
    static void same(String what, Object got, Object want) {
        Due.text(promise + what, String.valueOf(got), String.valueOf(want));
    }

    /** Of each row the call ahead of "=" is made behind the story, and answers what stands behind it. */
    static void dueAll(Story story, String... rows) {
        for (String row : rows) {
            int sign = row.indexOf(" = ");
            due(story, row.substring(0, sign), row.substring(sign + 3));
        }
    }

    /** The rows' calls are made one behind the other on one object. */
    static void dueInTurn(Story story, String... rows) {
        Undogroups house = story.tell();
        for (String row : rows) {
            int sign = row.indexOf(" = ");
            same(row, Call.of(row.substring(0, sign)).on(house), row.substring(sign + 3));
        }
    }

    /** The call throws this, and all that can be asked afterwards, and each next act, is as it would be without. */
    static void refused(Story story, String call, String exception) {
        Call refused = Call.of(call);
        same(call, refused.on(story.tell()), exception);
        List<String> got = story.ask(story.questions(), refused);
        for (int i = 0; i < got.size(); i++) {
            same(story.questions().get(i).text + " behind " + call, got.get(i), story.answers().get(i));
        }
        nextActs(story, refused);
    }

    private static void nextActs(Story story, Call refused) {
        for (String next : NEXT_ACTS) {
            Call act = Call.of(next);
            Undogroups with = story.tell();
            Undogroups without = story.tell();
            refused.on(with);
            String label = next + " behind " + refused.text;
            same(label, act.on(with), act.on(without));
            same(label + ", digest()", with.digest(), without.digest());
        }
    }

    /** Each question that can be asked of the house is allowed, and answered as the Model does. */
    static void agrees(Story story) {
        Model model = story.model();
        for (int i = 0; i < story.questions().size(); i++) {
            Call call = story.questions().get(i);
            String due = call.on(model);
            same(call.text, story.answers().get(i), due);
            same(call.text + " throws", due.startsWith("throws"), false);
        }
    }
}
