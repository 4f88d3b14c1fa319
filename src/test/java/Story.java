import java.util.ArrayList;
import java.util.List;

/**
 * A run of acts that can be told to any number of new objects, as each object is to be used for at most
 * 512 calls: who has more to ask asks several that were told the same.
 */
final class Story {
    static final int MOST_CALLS = 512;

    private final List<Call> acts;
    private List<Call> questions;
    private List<String> answers;

    private Story(List<Call> acts) {
        this.acts = acts;
    }

    static Story of(String... acts) {
        return new Story(new ArrayList<>()).then(acts);
    }

    static Story members(int count) {
        return of().times(count, "member()");
    }

    Story then(String... more) {
        List<Call> longer = new ArrayList<>(acts);
        for (String act : more) {
            longer.add(Call.of(act));
        }
        return new Story(longer);
    }

    Story times(int count, String act) {
        Story longer = this;
        for (int i = 0; i < count; i++) {
            longer = longer.then(act);
        }
        return longer;
    }

    /** Goes BACK to NOW until there are so many STEPS. */
    Story untilSteps(int steps) {
        int now = model().now();
        return times(steps - 1 - now, "back(" + now + ")");
    }

    int calls() {
        return acts.size();
    }

    /** How many calls can still be made. */
    int callsLeft() {
        return MOST_CALLS - acts.size();
    }

    Undogroups tell() {
        Undogroups house = new Undogroups();
        for (Call act : acts) {
            String answer = act.on(house);
            if (answer.startsWith("throws")) {
                Due.text("the story's " + act.text, answer, "no exception");
            }
        }
        return house;
    }

    Model model() {
        Model house = new Model();
        for (Call act : acts) {
            act.on(house);
        }
        return house;
    }

    /** What can be asked of this house, and what it answers. */
    List<Call> questions() {
        if (questions == null) {
            questions = Questions.about(model());
        }
        return questions;
    }

    List<String> answers() {
        if (answers == null) {
            answers = ask(questions());
        }
        return answers;
    }

    /** The answers to all these, each by an object that has calls left and to which the others were told ahead. */
    List<String> ask(List<Call> calls, Call... others) {
        List<String> all = new ArrayList<>();
        Undogroups house = null;
        int left = 0;
        for (Call call : calls) {
            if (left == 0) {
                house = tell();
                for (Call other : others) {
                    other.on(house);
                }
                left = callsLeft() - others.length;
            }
            all.add(call.on(house));
            left--;
        }
        return all;
    }
}
