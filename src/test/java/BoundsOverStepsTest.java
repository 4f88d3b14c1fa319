/** The boundary cases of promises 16 to 20. */
public final class BoundsOverStepsTest {
    public static void main(String[] args) {
        Bounds.run(BoundsOverStepsTest.class);
    }

    /** What together answers to 0 to 3, both ways round. */
    private static void dueTogether(Story story, int one, int two, int... due) {
        for (int what = 0; what <= 3; what++) {
            Bounds.due(story, "together(" + one + ", " + two + ", " + what + ")", due[what]);
            Bounds.due(story, "together(" + two + ", " + one + ", " + what + ")", due[what]);
        }
    }

    // ---- promise 16

    static void promise16NumbersThatNoMemberHas() {
        for (int number : Bounds.outside(24)) {
            Bounds.refused(Stories.SMALL, "together(" + number + ", 0, 0)", Call.ARGUMENT);
            Bounds.refused(Stories.SMALL, "together(0, " + number + ", 0)", Call.ARGUMENT);
            Bounds.refused(Stories.SMALL, "together(" + number + ", " + number + ", 0)", Call.ARGUMENT);
        }
        Bounds.dueAll(Stories.EMPTY, "together(24, 0, 0) = " + Call.ARGUMENT, "together(0, -1, 0) = " + Call.ARGUMENT,
                "together(23, 23, 0) = 0");
    }

    static void promise16WhatFrom0To3() {
        for (int what : new int[] {-1, 4, 5, 255, 256, Integer.MIN_VALUE, Integer.MAX_VALUE}) {
            Bounds.refused(Stories.SMALL, "together(0, 1, " + what + ")", Call.ARGUMENT);
        }
    }

    static void promise16NumbersOfNobodyAreAllowed() {
        for (int one : new int[] {0, 1, 22, 23}) {
            for (int two : new int[] {0, 1, 22, 23}) {
                dueTogether(Stories.EMPTY, one, two, 0, -1, -1, 0);
            }
            dueTogether(Stories.SMALL, one, 23, 0, -1, -1, 0);
        }
        dueTogether(Stories.SMALL, 4, 4, 0, -1, -1, 0);
        dueTogether(Stories.SMALL, 3, 4, 0, -1, -1, 0);
        dueTogether(Stories.SMALL, 3, 0, 0, -1, -1, 0);
    }

    static void promise16OneWithItself() {
        dueTogether(Stories.ONE, 0, 0, 1, 1, 1, 1);
        dueTogether(Stories.SMALL, 3, 3, 6, 4, 9, 6);
        dueTogether(Stories.GONE, 3, 3, 3, 5, 7, 3);
        dueTogether(Stories.GONE.then("member()"), 2, 2, 5, 4, 9, 4);
        dueTogether(Stories.ONE.untilSteps(250), 0, 0, 249, 1, 249, 249);
        dueTogether(Stories.FULL, 23, 23, 226, 24, 249, 226);
    }

    static void promise16MembersThatAreGone() {
        dueTogether(Stories.GONE, 0, 2, 2, 6, 7, 2);
        dueTogether(Stories.GONE, 2, 3, 1, 7, 7, 1);
        dueTogether(Stories.GONE, 0, 1, 6, 3, 8, 6);
        dueTogether(Stories.GONE.then("back(0)"), 0, 1, 6, 3, 8, 6);
        dueTogether(Stories.GONE.then("back(0)", "back(7)"), 2, 0, 3, 6, 10, 2);
        dueTogether(Stories.GONE.then("member()", "member()"), 2, 3, 1, 7, 7, 1);
    }

    static void promise16FirstLastAndLongestRow() {
        dueTogether(Stories.PAIR.untilSteps(250), 0, 1, 247, 3, 249, 247);
        dueTogether(Stories.TWO.untilSteps(249).then("edge(0, 1, 0, 0)"), 0, 1, 1, 249, 249, 1);
        Story onAndOff = Stories.PAIR.then("back(3)", "cut(0)", "join(0)", "back(3)", "back(3)", "cut(0)", "join(0)");
        dueTogether(onAndOff, 0, 1, 6, 3, 10, 3);
        dueTogether(onAndOff.then("cut(0)"), 0, 1, 6, 3, 10, 3);
        dueTogether(onAndOff.times(3, "back(3)"), 0, 1, 9, 3, 13, 4);
        dueTogether(Stories.FULL, 0, 23, 203, 47, 249, 203);
        dueTogether(Stories.FULL, 0, 1, 225, 25, 249, 225);
    }

    // ---- promise 17

    static void promise17StepsThatAreNot() {
        for (int step : Bounds.outside(10)) {
            Bounds.refused(Stories.SMALL, "change(" + step + ", 0, true)", Call.INDEX);
            Bounds.refused(Stories.SMALL, "change(0, " + step + ", false)", Call.INDEX);
            Bounds.refused(Stories.SMALL, "change(" + step + ", " + step + ", true)", Call.INDEX);
        }
        Bounds.dueAll(Stories.EMPTY, "change(0, 0, true) = 0", "change(0, 0, false) = 0",
                "change(0, 1, true) = " + Call.INDEX, "change(1, 0, false) = " + Call.INDEX);
    }

    static void promise17FirstAndLastStep() {
        Bounds.dueAll(Stories.SMALL, "change(0, 9, true) = 13", "change(0, 9, false) = 0", "change(9, 0, true) = 0",
                "change(9, 0, false) = 13", "change(8, 9, true) = 0", "change(8, 9, false) = 2",
                "change(9, 8, true) = 2", "change(9, 9, true) = 0", "change(9, 9, false) = 0");
        String all = String.valueOf((1L << 60) - 1);
        Bounds.dueAll(Stories.FULL, "change(0, 249, true) = " + all, "change(249, 0, false) = " + all,
                "change(249, 0, true) = 0", "change(83, 249, true) = " + (1L << 59),
                "change(84, 249, true) = 0", "change(249, 250, true) = " + Call.INDEX);
    }

    // ---- promise 18

    static void promise18StepsThatAreNot() {
        for (int step : Bounds.outside(10)) {
            Bounds.refused(Stories.SMALL, "twin(" + step + ")", Call.INDEX);
        }
        Bounds.dueAll(Stories.EMPTY, "twin(0) = 0", "twin(1) = " + Call.INDEX);
    }

    static void promise18ItselfOrTheFirst() {
        Bounds.dueAll(Stories.EMPTY.untilSteps(250), "twin(0) = 0", "twin(1) = 0", "twin(249) = 0");
        Bounds.dueAll(Stories.FULL, "twin(84) = 84", "twin(85) = 84", "twin(249) = 84", "twin(250) = " + Call.INDEX);
        Bounds.dueAll(Stories.SMALL, "twin(9) = 9", "twin(0) = 0");
    }

    static void promise18MembersAloneMakeADifference() {
        Bounds.dueAll(Stories.ONE, "twin(0) = 0", "twin(1) = 1");
        Bounds.dueAll(Stories.PAIR.then("member()", "back(3)", "member()", "cut(0)", "back(3)", "cut(0)"),
                "twin(4) = 4", "twin(5) = 3", "twin(6) = 4", "twin(7) = 7", "twin(8) = 3", "twin(9) = 2");
        Bounds.dueAll(Stories.GONE.then("member()", "member()"), "twin(8) = 3", "twin(9) = 4", "twin(10) = 5");
    }

    static void promise18EdgesAloneMakeADifference() {
        Bounds.dueAll(Stories.TWO.times(2, "edge(0, 1, 0, 0)").then("cut(0)", "join(0)", "cut(1)"), "twin(3) = 3",
                "twin(5) = 5", "twin(6) = 4", "twin(7) = 3");
    }

    // ---- promise 19

    static void promise19WhatFrom0To7() {
        for (int what : new int[] {-1, 8, 9, 255, 256, Integer.MIN_VALUE, Integer.MAX_VALUE}) {
            Bounds.refused(Stories.SMALL, "house(" + what + ")", Call.ARGUMENT);
            Bounds.due(Stories.EMPTY, "house(" + what + ")", Call.ARGUMENT);
            Bounds.due(Stories.FULL, "house(" + what + ")", Call.ARGUMENT);
        }
    }

    static void promise19FullHouse() {
        Bounds.dueAll(Stories.FULL, "house(0) = 250", "house(1) = 24", "house(2) = 60", "house(3) = 0", "house(4) = 0",
                "house(5) = 165", "house(6) = 85", "house(7) = 0");
    }

    static void promise19MostCutsAndJoins() {
        Story story = Stories.PAIR;
        for (int i = 0; i < 123; i++) {
            story = story.then("cut(0)", "join(0)");
        }
        Bounds.dueAll(story, "house(0) = 250", "house(3) = 123", "house(4) = 123", "house(5) = 0", "house(6) = 4");
    }

    static void promise19MostSteps() {
        Bounds.dueAll(Stories.EMPTY.untilSteps(250), "house(5) = 249", "house(6) = 1", "house(0) = 250");
    }

    /** By Gray's order no set of LIVE EDGES comes again, and EDGE 8, always LIVE, is in none of those ahead. */
    static void promise19AllStepsWithoutAnEarlierTwin() {
        Story story = Stories.TWO.times(9, "edge(0, 1, 0, 0)");
        boolean[] isCut = new boolean[9];
        for (int i = 1; story.calls() < 249; i++) {
            int edge = Integer.numberOfTrailingZeros(i);
            story = story.then((isCut[edge] ? "join(" : "cut(") + edge + ")");
            isCut[edge] = !isCut[edge];
        }
        Bounds.dueAll(story, "house(6) = 250", "house(0) = 250", "twin(249) = 249");
    }

    static void promise19RefusedCallsCountForNothing() {
        Bounds.dueInTurn(Stories.SMALL, "cut(1) = " + Call.STATE, "join(0) = " + Call.STATE,
                "back(10) = " + Call.INDEX, "edge(0, 0, 0, 0) = " + Call.ARGUMENT, "house(0) = 10", "house(2) = 4",
                "house(3) = 1", "house(4) = 0", "house(5) = 0", "house(7) = 0");
    }

    // ---- promise 20

    static void promise20NobodyEver() {
        Bounds.due(Stories.EMPTY, "mean()", "0.0");
        Bounds.due(Stories.EMPTY.untilSteps(250), "mean()", "0.0");
    }

    static void promise20OverAllSteps() {
        Bounds.due(Stories.ONE, "mean()", "0.5");
        Bounds.due(Stories.TWO, "mean()", "1.0");
        Bounds.due(Stories.ONE.then("back(0)"), "mean()", 1.0 / 3.0);
        Bounds.due(Stories.PAIR.then("cut(0)", "back(0)"), "mean()", 1.0);
        Bounds.due(Stories.PAIR.then("cut(0)", "back(1)"), "mean()", 7.0 / 6.0);
        Bounds.due(Story.members(24).untilSteps(250), "mean()", (276.0 + 24.0 * 226.0) / 250.0);
        Bounds.due(Stories.FULL, "mean()", (300.0 + 276.0 + 202.0) / 250.0);
    }
}
