import java.util.ArrayList;
import java.util.List;

/** What holds for every call: which exception is first, the empty house and the full one, the 512th call. */
public final class BoundsOfAllTest {
    /** Each call once as it is answered in a small house, whichever its promise. */
    private static final String[] EACH_CALL = {"member()", "edge(0, 3, -99, 99)", "cut(0)", "join(1)", "back(4)",
        "call()", "of(9, 11)", "ofMember(9, 0, 9)", "ofEdge(9, 2, 4)", "told(3, 5)", "apart(9, 2, 0)",
        "held(9, 0, 1)", "live(9)", "row(9)", "together(0, 1, 3)", "change(9, 8, true)", "twin(9)", "house(6)",
        "mean()", "wouldJoin(0, 3)", "bestCut()", "undo(0, 1)", "mend()", "isSound()", "digest()"};
    private static final String[] EACH_CALL_OF_FULL = {"member()", "edge(0, 23, 0, 0)", "cut(59)", "join(59)",
        "back(249)", "call()", "of(249, 7)", "ofMember(249, 23, 9)", "ofEdge(249, 59, 3)", "told(59, 5)",
        "apart(249, 23, 0)", "held(249, 0, 23)", "live(249)", "row(249)", "together(23, 0, 3)",
        "change(0, 249, true)", "twin(249)", "house(0)", "mean()", "wouldJoin(0, 23)", "bestCut()", "undo(0, 23)",
        "mend()", "isSound()", "digest()"};

    public static void main(String[] args) {
        Bounds.run(BoundsOfAllTest.class);
    }

    // ---- of several exceptions the one that is named first

    private static void refusedAll(Story story, String exception, String... calls) {
        for (String call : calls) {
            Bounds.refused(story, call, exception);
        }
    }

    static void promise03IndexAheadOfArgument() {
        refusedAll(Stories.SMALL, Call.INDEX, "edge(4, 4, 0, 0)", "edge(-1, -1, 0, 0)", "edge(4, 0, 100, 0)",
                "edge(0, 4, -100, 0)", "edge(4, 0, 0, 100)", "edge(0, -1, 0, -1)", "edge(4, 4, 100, 100)",
                "edge(-2147483648, -2147483648, -2147483648, -2147483648)",
                "edge(2147483647, 2147483647, 2147483647, 2147483647)");
    }

    static void promise03IndexAheadOfState() {
        Story all = Stories.TWO.times(60, "edge(0, 1, 0, 0)");
        refusedAll(all, Call.INDEX, "edge(2, 0, 0, 0)", "edge(0, 2, 0, 0)", "edge(-1, 1, 0, 0)", "edge(2, 2, 100, 100)");
        refusedAll(Stories.SMALL.untilSteps(250), Call.INDEX, "edge(4, 0, 0, 0)", "edge(0, -1, 0, 0)",
                "edge(4, 4, 100, -1)");
        refusedAll(Stories.FULL, Call.INDEX, "edge(24, 0, 0, 0)", "edge(0, -1, 0, 0)", "edge(24, 24, 100, -1)");
    }

    static void promise03ArgumentAheadOfState() {
        String[] calls = {"edge(1, 1, 0, 0)", "edge(0, 1, -100, 0)", "edge(0, 1, 100, 0)", "edge(0, 1, 0, -1)",
            "edge(0, 1, 0, 100)", "edge(0, 0, 100, 100)"};
        refusedAll(Stories.TWO.times(60, "edge(0, 1, 0, 0)"), Call.ARGUMENT, calls);
        refusedAll(Stories.SMALL.untilSteps(250), Call.ARGUMENT, calls);
        refusedAll(Stories.FULL, Call.ARGUMENT, calls);
        Bounds.refused(Stories.FULL, "edge(0, 1, -99, 99)", Call.STATE);
    }

    static void promise04IndexAheadOfState() {
        refusedAll(Stories.SMALL.untilSteps(250), Call.INDEX, "cut(4)", "cut(-1)", "cut(60)");
        refusedAll(Stories.FULL, Call.INDEX, "cut(60)", "cut(-1)");
        refusedAll(Stories.EMPTY.untilSteps(250), Call.INDEX, "cut(0)");
    }

    static void promise05IndexAheadOfState() {
        refusedAll(Stories.SMALL.untilSteps(250), Call.INDEX, "join(4)", "join(-1)", "join(60)");
        refusedAll(Stories.FULL, Call.INDEX, "join(60)", "join(-1)");
        refusedAll(Stories.EMPTY.untilSteps(250), Call.INDEX, "join(0)");
    }

    static void promise06IndexAheadOfState() {
        refusedAll(Stories.SMALL.untilSteps(250), Call.INDEX, "back(250)", "back(-1)");
        refusedAll(Stories.FULL, Call.INDEX, "back(250)", "back(-1)", "back(2147483647)");
    }

    static void promise08To11IndexAheadOfArgument() {
        refusedAll(Stories.SMALL, Call.INDEX, "of(10, 12)", "of(-1, -1)", "ofMember(10, 0, 11)", "ofMember(9, 4, 11)",
                "ofMember(9, -1, -1)", "ofMember(10, 4, 11)", "ofMember(3, 3, 11)", "ofEdge(10, 0, 6)",
                "ofEdge(9, 4, 6)", "ofEdge(-1, -1, -1)", "told(4, 6)", "told(-1, -1)");
        refusedAll(Stories.FULL, Call.INDEX, "of(250, 12)", "ofMember(249, 24, 11)", "ofMember(250, 0, -1)",
                "ofEdge(250, 0, 6)", "ofEdge(249, 60, 6)", "told(60, 6)");
        refusedAll(Stories.FULL, Call.ARGUMENT, "of(249, 12)", "ofMember(249, 23, 11)", "ofEdge(249, 59, 6)",
                "told(59, 6)");
    }

    static void promise12IndexAheadOfState() {
        refusedAll(Stories.SMALL, Call.INDEX, "apart(9, 0, 4)", "apart(9, 4, 0)", "apart(9, -1, 3)",
                "apart(3, 0, 3)", "apart(10, 0, 3)", "apart(-1, 3, 0)");
    }

    static void promise13IndexAheadOfArgument() {
        refusedAll(Stories.SMALL, Call.INDEX, "held(9, 4, 4)", "held(9, -1, -1)", "held(10, 0, 0)", "held(3, 3, 3)",
                "held(-1, 1, 1)");
        refusedAll(Stories.GONE, Call.INDEX, "held(8, 2, 2)", "held(8, 3, 3)");
    }

    static void promise21And23IndexAheadOfArgument() {
        for (String name : new String[] {"wouldJoin", "undo"}) {
            refusedAll(Stories.SMALL, Call.INDEX, name + "(4, 4)", name + "(-1, -1)", name + "(24, 24)");
            refusedAll(Stories.GONE, Call.INDEX, name + "(2, 2)", name + "(3, 3)");
            refusedAll(Stories.EMPTY, Call.INDEX, name + "(0, 0)");
        }
    }

    /** All kinds of refused calls, one behind the other, and then all is as it was. */
    static void promise02To23ManyRefusedCallsChangeNothing() {
        String[] calls = {"edge(0, 4, 0, 0)", "edge(0, 0, 0, 0)", "edge(0, 1, 100, 0)", "edge(0, 1, 0, 100)", "cut(4)",
            "cut(1)", "join(4)", "join(0)", "back(10)", "back(-1)", "of(10, 0)", "of(9, 12)", "ofMember(9, 4, 0)",
            "ofMember(9, 0, 11)", "ofEdge(9, 4, 0)", "ofEdge(9, 0, 6)", "told(4, 0)", "told(0, 6)", "apart(9, 0, 3)",
            "apart(9, 0, 4)", "held(9, 0, 0)", "held(9, 0, 4)", "live(10)", "row(10)", "together(24, 0, 0)",
            "together(0, 0, 4)", "change(0, 10, true)", "twin(10)", "house(8)", "wouldJoin(0, 4)", "wouldJoin(0, 0)",
            "undo(0, 4)", "undo(0, 0)"};
        List<Call> all = new ArrayList<>();
        for (int round = 0; round < 4; round++) {
            for (String call : calls) {
                all.add(Call.of(call));
            }
        }
        List<String> got = Stories.SMALL.ask(Stories.SMALL.questions(), all.toArray(new Call[0]));
        for (int i = 0; i < got.size(); i++) {
            Bounds.same("behind many refused calls, " + Stories.SMALL.questions().get(i).text, got.get(i),
                    Stories.SMALL.answers().get(i));
        }
    }

    // ---- the empty house

    static void promise01To26EmptyHouse() {
        String i = Call.INDEX;
        Bounds.dueAll(Stories.EMPTY, "member() = 0", "edge(0, 1, 0, 0) = " + i, "cut(0) = " + i, "join(0) = " + i,
                "back(0) = 1", "back(1) = " + i, "call() = 1", "of(0, 0) = 0", "of(0, 2) = 0", "of(0, 3) = 0",
                "of(0, 4) = -1", "of(0, 11) = 0", "ofMember(0, 0, 0) = " + i, "ofEdge(0, 0, 0) = " + i,
                "told(0, 0) = " + i, "apart(0, 0, 0) = " + i, "held(0, 0, 1) = " + i, "live(0) = 0", "row(0) = ",
                "together(0, 1, 0) = 0", "together(0, 0, 1) = -1", "together(23, 23, 2) = -1", "together(0, 0, 3) = 0",
                "change(0, 0, true) = 0", "change(0, 0, false) = 0", "twin(0) = 0", "house(0) = 1", "mean() = 0.0",
                "wouldJoin(0, 1) = " + i, "bestCut() = -1", "undo(0, 1) = " + i, "mend() = 0", "isSound() = true");
        Bounds.agrees(Stories.EMPTY);
        Bounds.agrees(Stories.ONE);
        Bounds.agrees(Stories.TWO.then("back(0)"));
        Bounds.agrees(Stories.EMPTY.untilSteps(250));
    }

    // ---- the full house

    static void promise01To26FullHouse() {
        Story full = Stories.FULL;
        for (Story story : new Story[] {full, Stories.TANGLED, Stories.LOOSE}) {
            Bounds.dueAll(story, "house(0) = 250", "house(1) = 24", "house(2) = 60", "member() = " + Call.STATE,
                    "edge(0, 1, 0, 0) = " + Call.STATE, "cut(0) = " + Call.STATE, "join(0) = " + Call.STATE,
                    "back(0) = " + Call.STATE, "call() = 1");
            Bounds.agrees(story);
        }
        Bounds.refused(full, "member()", Call.STATE);
        Bounds.refused(full, "edge(0, 1, 0, 0)", Call.STATE);
        Bounds.refused(full, "cut(0)", Call.STATE);
        Bounds.refused(full, "join(0)", Call.STATE);
        Bounds.refused(full, "back(249)", Call.STATE);
    }

    static void promise08To24FullHouseAskedOfEachMemberAndEdge() {
        for (Story story : new Story[] {Stories.TANGLED, Stories.LOOSE}) {
            Model model = story.model();
            List<Call> calls = new ArrayList<>();
            for (int member = 0; member < 24; member++) {
                for (int what = 0; what <= 10; what++) {
                    calls.add(Call.of("ofMember(249, " + member + ", " + what + ")"));
                }
                calls.add(Call.of("held(249, " + member + ", " + (member + 7) % 24 + ")"));
                calls.add(Call.of("apart(249, " + member + ", " + (member + 7) % 24 + ")"));
            }
            for (int edge = 0; edge < 60; edge++) {
                for (int what = 0; what <= 5; what++) {
                    calls.add(Call.of("ofEdge(249, " + edge + ", " + what + ")"));
                    calls.add(Call.of("told(" + edge + ", " + what + ")"));
                }
            }
            List<String> got = story.ask(calls);
            for (int i = 0; i < got.size(); i++) {
                Bounds.same("full house, " + calls.get(i).text, got.get(i), calls.get(i).on(model));
            }
        }
    }

    // ---- answers do not hang on what was asked ahead of them

    static void promise08To26TheOrderOfQuestionsMakesNoDifference() {
        for (Story story : new Story[] {Stories.SMALL, Stories.GONE, Stories.FULL, Stories.TANGLED, Stories.LOOSE}) {
            List<Integer> order = new ArrayList<>();
            int count = story.questions().size();
            for (int i = 0; i < count; i++) {
                order.add(i % 2 == 0 ? i / 2 : count - 1 - i / 2);
            }
            List<Call> calls = new ArrayList<>();
            for (int place : order) {
                calls.add(story.questions().get(place));
            }
            List<String> got = story.ask(calls);
            for (int i = 0; i < count; i++) {
                Bounds.same("in another order, " + calls.get(i).text, got.get(i),
                        story.answers().get(order.get(i)));
            }
        }
    }

    /** Asked, then an act, then asked again on the same object: what a STEP keeps, it keeps for good. */
    static void promise02To06WhatWasAskedIsAnsweredTheSameBehindEachAct() {
        String[] acts = {"member()", "edge(1, 0, 9, 0)", "cut(0)", "join(1)", "back(2)", "back(0)"};
        Story story = Stories.SMALL;
        for (Call question : story.questions()) {
            if (!isAsOfSteps(question)) {
                continue;
            }
            for (String act : acts) {
                Undogroups house = story.tell();
                String before = question.on(house);
                Bounds.same(act + " is done", Call.of(act).on(house).startsWith("throws"), false);
                Bounds.same(question.text + " behind " + act, question.on(house), before);
            }
        }
    }

    private static boolean isAsOfSteps(Call question) {
        for (String name : new String[] {"of", "ofMember", "ofEdge", "apart", "held", "live", "row", "twin",
            "change"}) {
            if (question.text.startsWith(name + "(")) {
                return true;
            }
        }
        return false;
    }

    // ---- the 512th call

    static void promise01To26The512thCall() {
        dueAsLastCall(Stories.SMALL, EACH_CALL);
        dueAsLastCall(Stories.FULL, EACH_CALL_OF_FULL);
        dueAsLastCall(Stories.EMPTY, "member()", "row(0)", "mean()", "digest()", "isSound()", "call()", "of(0, 4)");
    }

    private static void dueAsLastCall(Story story, String... calls) {
        for (String text : calls) {
            Undogroups house = story.tell();
            Model model = story.model();
            for (int i = 0; i < story.callsLeft() - 1; i++) {
                house.call();
                model.call();
            }
            Bounds.same("as the 512th call, " + text, Call.of(text).on(house), Call.of(text).on(model));
        }
    }

    /** 512 calls of all kinds on one object, many of them refused, each answered as the Model does. */
    static void promise01To26AllCallsUpToThe512th() {
        for (Story story : new Story[] {Stories.LOOSE, Stories.NEARLY}) {
            Undogroups house = story.tell();
            Model model = story.model();
            for (int i = 0; i < story.callsLeft(); i++) {
                String[] from = i % 2 == 0 ? EACH_CALL : EACH_CALL_OF_FULL;
                Call call = Call.of(from[i / 2 % from.length]);
                Bounds.same("call " + (story.calls() + i + 1) + ", " + call.text, call.on(house), call.on(model));
            }
        }
    }
}
