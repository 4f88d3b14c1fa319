/** The boundary cases of promises 8 to 11. */
public final class BoundsOfStepsTest {
    private static final int[] NOT_0_TO_5 = {-1, 6, 7, 255, 256, Integer.MIN_VALUE, Integer.MAX_VALUE};

    public static void main(String[] args) {
        Bounds.run(BoundsOfStepsTest.class);
    }

    /** MEMBERS in a row, each with the next one. */
    private static Story path(int members) {
        Story story = Story.members(members);
        for (int i = 1; i < members; i++) {
            story = story.then("edge(" + (i - 1) + ", " + i + ", 0, 99)");
        }
        return story;
    }

    private static Story closed(int members) {
        return path(members).then("edge(" + (members - 1) + ", 0, 0, 99)");
    }

    // ---- promise 8

    static void promise08StepsThatAreNot() {
        for (int step : Bounds.outside(10)) {
            Bounds.refused(Stories.SMALL, "of(" + step + ", 0)", Call.INDEX);
        }
        Bounds.dueAll(Stories.SMALL, "of(0, 0) = 0", "of(9, 0) = 4");
        Bounds.dueAll(Stories.EMPTY, "of(0, 0) = 0", "of(1, 0) = " + Call.INDEX);
        Bounds.dueAll(Stories.FULL, "of(249, 0) = 24", "of(250, 0) = " + Call.INDEX, "of(0, 0) = 0");
    }

    static void promise08WhatFrom0To11() {
        for (int what : new int[] {-1, 12, 13, 255, 256, Integer.MIN_VALUE, Integer.MAX_VALUE}) {
            Bounds.refused(Stories.SMALL, "of(9, " + what + ")", Call.ARGUMENT);
            Bounds.due(Stories.EMPTY, "of(0, " + what + ")", Call.ARGUMENT);
        }
        Bounds.dueAll(Stories.SMALL, "of(9, 0) = 4", "of(9, 11) = 1");
    }

    static void promise08NothingIsThere() {
        for (int what = 0; what <= 11; what++) {
            String due = what == 4 ? "-1" : "0";
            Bounds.due(Stories.EMPTY, "of(0, " + what + ")", due);
            Bounds.due(Stories.FULL, "of(0, " + what + ")", due);
            Bounds.due(Stories.TWO.then("back(0)"), "of(3, " + what + ")", due);
        }
    }

    static void promise08OneAlone() {
        String[] due = {"1", "0", "1", "1", "0", "0", "0", "0", "1", "1", "0", "0"};
        for (int what = 0; what <= 11; what++) {
            Bounds.due(Stories.ONE, "of(1, " + what + ")", due[what]);
        }
    }

    static void promise08AllAlone() {
        String[] due = {"24", "0", "24", "1", "0", "0", "0", "0", "24", "24", "0", "0"};
        for (int what = 0; what <= 11; what++) {
            Bounds.due(Story.members(24), "of(24, " + what + ")", due[what]);
        }
    }

    static void promise08AllInARow() {
        String[] due = {"24", "23", "1", "24", "0", "23", "22", "0", "1", "1", "2277", "1"};
        for (int what = 0; what <= 11; what++) {
            Bounds.due(path(24), "of(47, " + what + ")", due[what]);
        }
    }

    static void promise08FullHouse() {
        String[] due = {"24", "60", "1", "24", "0", "0", "0", "37", "0", "1", "253", "1"};
        for (int what = 0; what <= 11; what++) {
            Bounds.due(Stories.FULL, "of(249, " + what + ")", due[what]);
        }
    }

    static void promise08GreatestGroupOfSeveralAsGreat() {
        Bounds.dueAll(Story.members(6).then("edge(5, 4, 0, 0)", "edge(3, 2, 0, 0)", "edge(5, 1, 0, 0)"),
                "of(6, 3) = 1", "of(6, 4) = 0", "of(7, 3) = 2", "of(7, 4) = 4", "of(8, 3) = 2", "of(8, 4) = 2",
                "of(9, 3) = 3", "of(9, 4) = 1");
        Bounds.dueAll(Story.members(24).then("edge(23, 22, 0, 0)"), "of(25, 3) = 2", "of(25, 4) = 22");
    }

    static void promise08MostQuarrels() {
        Story story = Stories.TWO.then("edge(0, 1, 1, 0)").times(59, "edge(1, 0, 0, 0)");
        Bounds.dueAll(story, "of(62, 7) = 59", "of(62, 8) = 0", "of(3, 7) = 0", "of(3, 8) = 1");
    }

    static void promise08EarlierStepsAreAsTheyWere() {
        Story met = Story.members(4).then("edge(0, 1, 0, 0)", "edge(0, 1, 1, 0)", "edge(2, 3, 0, 0)",
                "edge(2, 3, 1, 0)", "edge(1, 2, 0, 0)");
        Bounds.dueAll(met, "of(8, 8) = 0", "of(9, 8) = 0", "of(8, 2) = 2", "of(8, 7) = 2", "of(7, 8) = 1",
                "of(5, 8) = 3");
        Story gone = Story.members(5).then("edge(3, 4, 0, 7)", "back(2)");
        Bounds.dueAll(gone, "of(6, 3) = 2", "of(6, 4) = 3", "of(6, 5) = 1", "of(6, 10) = 7", "of(6, 11) = 1",
                "of(7, 3) = 1", "of(7, 4) = 0", "of(7, 5) = 0", "of(7, 10) = 0", "of(7, 11) = 0");
    }

    /** Trees of the same size are hung on each other, so that the DEPTH grows each time. */
    static void promise08GreatestDepth() {
        Story story = Story.members(24);
        int step = 24;
        int depth = 0;
        for (int half = 1; half <= 8; half *= 2) {
            for (int one = 0; one < 16; one += 2 * half) {
                story = story.then("edge(" + one + ", " + (one + half) + ", 0, 0)");
                step++;
            }
            depth++;
            Bounds.due(story, "of(" + step + ", 11)", depth);
        }
        Bounds.dueAll(story, "ofMember(39, 15, 3) = 4", "ofMember(39, 15, 2) = 0", "ofMember(39, 0, 3) = 0",
                "ofMember(39, 16, 3) = 0");
    }

    // ---- promise 9

    static void promise09StepsThatAreNot() {
        for (int step : Bounds.outside(10)) {
            Bounds.refused(Stories.SMALL, "ofMember(" + step + ", 0, 0)", Call.INDEX);
        }
    }

    static void promise09MembersThatAreNotThere() {
        for (int member : Bounds.outside(4)) {
            Bounds.refused(Stories.SMALL, "ofMember(9, " + member + ", 0)", Call.INDEX);
        }
        Bounds.dueAll(Stories.EMPTY, "ofMember(0, 0, 0) = " + Call.INDEX, "ofMember(0, -1, 0) = " + Call.INDEX);
        Bounds.dueAll(Stories.FULL, "ofMember(249, 23, 0) = 0", "ofMember(249, 24, 0) = " + Call.INDEX);
    }

    static void promise09LaterMembersAreNotThereYet() {
        for (int step = 0; step < 4; step++) {
            Bounds.refused(Stories.SMALL, "ofMember(" + step + ", " + step + ", 0)", Call.INDEX);
            Bounds.due(Stories.SMALL, "ofMember(" + (step + 1) + ", " + step + ", 0)", step);
        }
    }

    static void promise09MembersThatAreGone() {
        for (int what = 0; what <= 10; what++) {
            Bounds.refused(Stories.GONE, "ofMember(8, 2, " + what + ")", Call.INDEX);
            Bounds.due(Stories.GONE, "ofMember(8, 3, " + what + ")", Call.INDEX);
        }
        Bounds.dueAll(Stories.GONE, "ofMember(7, 3, 0) = 0", "ofMember(7, 3, 1) = 4", "ofMember(8, 1, 1) = 2",
                "ofMember(8, 1, 4) = 1", "ofMember(7, 1, 4) = 2");
    }

    static void promise09WhatFrom0To10() {
        for (int what : new int[] {-1, 11, 12, 255, 256, Integer.MIN_VALUE, Integer.MAX_VALUE}) {
            Bounds.refused(Stories.SMALL, "ofMember(9, 0, " + what + ")", Call.ARGUMENT);
        }
        Bounds.dueAll(Stories.SMALL, "ofMember(9, 0, 0) = 0", "ofMember(9, 0, 10) = 1");
    }

    static void promise09OneAlone() {
        String[] due = {"0", "1", "0", "0", "0", "0", "0", "-1", "1", "-1", "1"};
        for (int what = 0; what <= 10; what++) {
            Bounds.due(Stories.ONE, "ofMember(1, 0, " + what + ")", due[what]);
        }
    }

    static void promise09LastOneOfAFullHouse() {
        String[] due = {"0", "24", "0", "1", "38", "0", "1", "-1", "0", "23", "-1"};
        for (int what = 0; what <= 10; what++) {
            Bounds.due(Stories.FULL, "ofMember(249, 23, " + what + ")", due[what]);
        }
    }

    static void promise09KnotsAtTheEndsAndBetween() {
        Bounds.dueAll(path(3), "ofMember(5, 0, 5) = 0", "ofMember(5, 1, 5) = 1", "ofMember(5, 2, 5) = 0",
                "ofMember(4, 1, 5) = 0", "ofMember(4, 2, 5) = 0");
        Bounds.dueAll(path(3).then("edge(0, 2, 0, 0)"), "ofMember(6, 1, 5) = 0", "of(6, 6) = 0");
    }

    static void promise09ColourIsNoneOnlyIfNotEven() {
        Bounds.dueAll(path(24), "ofMember(47, 0, 6) = 0", "ofMember(47, 1, 6) = 1", "ofMember(47, 23, 6) = 1");
        Bounds.dueAll(closed(24), "ofMember(48, 23, 6) = 1", "ofMember(48, 22, 6) = 0");
        for (int member = 0; member < 23; member++) {
            Bounds.due(closed(23), "ofMember(46, " + member + ", 6)", -1);
        }
        Bounds.dueAll(Story.members(4).then("edge(3, 2, 0, 0)", "edge(3, 1, 0, 0)"), "ofMember(6, 0, 6) = 0",
                "ofMember(6, 1, 6) = 0", "ofMember(6, 2, 6) = 0", "ofMember(6, 3, 6) = 1");
    }

    static void promise09RingIsNoneOnlyIfEven() {
        Bounds.dueAll(path(24), "ofMember(47, 0, 7) = -1", "ofMember(47, 23, 7) = -1");
        Bounds.dueAll(closed(24), "ofMember(48, 0, 7) = -1", "ofMember(48, 23, 7) = -1");
        Bounds.dueAll(Stories.TWO.times(3, "edge(0, 1, 0, 0)"), "ofMember(5, 0, 7) = -1", "ofMember(5, 0, 6) = 0");
    }

    static void promise09ShortestAndLongestRing() {
        for (int members = 3; members <= 23; members += 2) {
            int step = 2 * members;
            Bounds.due(closed(members), "ofMember(" + step + ", " + members / 2 + ", 7)", members);
        }
        Bounds.dueAll(closed(23).then("member()", "edge(23, 11, 0, 0)"), "ofMember(48, 23, 7) = 23",
                "ofMember(48, 23, 6) = -1", "ofMember(47, 23, 7) = -1");
        Bounds.dueAll(closed(23).then("edge(0, 2, 0, 0)", "edge(0, 2, 0, 0)"), "ofMember(48, 12, 7) = 3");
    }

    static void promise09FairAndTheSmallestQuarrel() {
        Story story = Stories.TWO.times(58, "edge(0, 1, 7, 0)").then("edge(1, 0, -7, 0)", "edge(1, 0, 7, 0)");
        Bounds.dueAll(story, "ofMember(62, 1, 8) = 0", "ofMember(62, 1, 9) = 59", "ofMember(61, 1, 8) = 1",
                "ofMember(61, 1, 9) = -1", "ofMember(2, 0, 8) = 1", "ofMember(2, 0, 9) = -1");
        Story first = Stories.TWO.then("edge(0, 1, 7, 0)").times(59, "edge(0, 1, 8, 0)");
        Bounds.dueAll(first, "ofMember(62, 0, 9) = 1", "ofMember(62, 1, 9) = 1");
        Story two = Story.members(4).then("edge(0, 1, 0, 0)", "edge(2, 3, 0, 0)", "edge(3, 2, 1, 0)",
                "edge(1, 0, 1, 0)");
        Bounds.dueAll(two, "ofMember(8, 0, 9) = 3", "ofMember(8, 3, 9) = 2", "ofMember(7, 0, 9) = -1",
                "ofMember(7, 0, 8) = 1", "ofMember(7, 2, 8) = 0");
    }

    static void promise09QuarrelsOfEarlierStepsAreAsTheyWere() {
        Story met = Story.members(4).then("edge(0, 1, 0, 0)", "edge(0, 1, 1, 0)", "edge(2, 3, 0, 0)",
                "edge(2, 3, 1, 0)", "edge(1, 2, 0, 0)");
        Bounds.dueAll(met, "ofMember(8, 2, 9) = 3", "ofMember(8, 3, 8) = 0", "ofMember(8, 1, 9) = 1",
                "ofMember(9, 3, 9) = 1", "ofMember(7, 3, 9) = -1", "ofMember(7, 3, 8) = 1");
        Bounds.dueAll(met.then("back(0)"), "ofMember(9, 3, 9) = 1", "ofMember(8, 2, 9) = 3",
                "ofMember(8, 2, 8) = 0");
    }

    /** A hub and a ring of eleven about it: three colours are not enough for these 12. */
    private static Story wheel() {
        Story story = Story.members(12);
        for (int i = 1; i <= 11; i++) {
            story = story.then("edge(0, " + i + ", 0, 0)", "edge(" + i + ", " + (i % 11 + 1) + ", 0, 0)");
        }
        return story;
    }

    static void promise09ThreeOf12AndOf13() {
        Bounds.dueAll(wheel(), "ofMember(34, 0, 10) = 0", "ofMember(34, 11, 10) = 0", "ofMember(33, 11, 10) = 1",
                "ofMember(34, 5, 1) = 12");
        Bounds.dueAll(wheel().then("member()", "edge(12, 4, 0, 0)", "cut(22)"), "ofMember(35, 12, 10) = 1",
                "ofMember(35, 11, 10) = 0", "ofMember(36, 12, 10) = -1", "ofMember(36, 0, 10) = -1",
                "ofMember(37, 12, 10) = 1", "ofMember(37, 0, 10) = 0");
        Bounds.dueAll(closed(12), "ofMember(24, 0, 10) = 1");
        Bounds.dueAll(closed(11), "ofMember(22, 0, 10) = 1");
        Bounds.dueAll(closed(13), "ofMember(26, 0, 10) = -1");
        Bounds.dueAll(Stories.FULL, "ofMember(249, 0, 10) = -1", "ofMember(1, 0, 10) = 1");
    }

    static void promise09ThreeOfAGroupWithoutTheFirstMember() {
        Story four = Story.members(9).then("edge(4, 8, 0, 0)", "edge(8, 6, 0, 0)", "edge(6, 4, 0, 0)",
                "edge(5, 4, 0, 0)", "edge(5, 6, 0, 0)", "edge(5, 8, 0, 0)");
        for (int member : new int[] {4, 5, 6, 8}) {
            Bounds.due(four, "ofMember(15, " + member + ", 10)", 0);
            Bounds.due(four, "ofMember(14, " + member + ", 10)", 1);
        }
        Bounds.dueAll(four, "ofMember(15, 0, 10) = 1", "ofMember(15, 7, 10) = 1");
    }

    /** One that came later, and has EDGES to all three colours, is not there as of an earlier STEP. */
    static void promise09ThreeBehindOneThatWasAskedWithALaterMember() {
        Story story = Story.members(3).then("edge(0, 1, 0, 0)", "edge(1, 2, 0, 0)", "edge(2, 0, 0, 0)", "member()",
                "edge(3, 0, 0, 0)", "edge(3, 1, 0, 0)", "edge(3, 2, 0, 0)");
        Bounds.dueInTurn(story, "ofMember(10, 3, 10) = 0", "ofMember(6, 0, 10) = 1", "ofMember(10, 0, 10) = 0",
                "ofMember(6, 2, 10) = 1");
        Bounds.dueInTurn(story.then("back(6)"), "ofMember(10, 3, 10) = 0", "ofMember(11, 0, 10) = 1");
    }

    /** Three fours, each one of which has EDGES to all of the others': each colour is used four times. */
    static void promise09ThreeColoursForTwelveMembers() {
        Story fours = Story.members(12);
        for (int one = 0; one < 12; one++) {
            for (int two = one + 1; two < 12; two++) {
                if (one % 3 != two % 3) {
                    fours = fours.then("edge(" + one + ", " + two + ", 0, 0)");
                }
            }
        }
        Bounds.dueAll(fours, "of(60, 1) = 48", "ofMember(60, 0, 10) = 1", "ofMember(60, 11, 10) = 1");
        for (String edge : new String[] {"edge(0, 3, 0, 0)", "edge(10, 7, 0, 0)", "edge(2, 11, 0, 0)"}) {
            Bounds.dueAll(fours.then(edge), "ofMember(61, 0, 10) = 0", "ofMember(60, 0, 10) = 1");
            Bounds.due(fours.then(edge, "cut(0)", "cut(48)"), "ofMember(63, 11, 10)", 1);
        }
    }

    // ---- promise 10

    static void promise10StepsThatAreNot() {
        for (int step : Bounds.outside(10)) {
            Bounds.refused(Stories.SMALL, "ofEdge(" + step + ", 0, 0)", Call.INDEX);
        }
    }

    static void promise10EdgesThatWereNeverTold() {
        for (int edge : Bounds.outside(4)) {
            Bounds.refused(Stories.SMALL, "ofEdge(9, " + edge + ", 0)", Call.INDEX);
        }
        Bounds.due(Stories.EMPTY, "ofEdge(0, 0, 0)", Call.INDEX);
        Bounds.due(Stories.TWO, "ofEdge(2, 0, 0)", Call.INDEX);
        Bounds.dueAll(Stories.FULL, "ofEdge(249, 59, 0) = 1", "ofEdge(249, 60, 0) = " + Call.INDEX);
    }

    static void promise10EdgesToldLaterCountAsTold() {
        for (int what = 0; what <= 5; what++) {
            String due = what == 4 ? "-1" : "0";
            Bounds.due(Stories.SMALL, "ofEdge(0, 3, " + what + ")", due);
            Bounds.due(Stories.SMALL, "ofEdge(7, 3, " + what + ")", due);
            Bounds.due(Stories.SMALL, "ofEdge(4, 0, " + what + ")", due);
            Bounds.due(Stories.GONE, "ofEdge(8, 2, " + what + ")", due);
            Bounds.due(Stories.FULL, "ofEdge(0, 59, " + what + ")", due);
        }
    }

    static void promise10WhatFrom0To5() {
        for (int what : NOT_0_TO_5) {
            Bounds.refused(Stories.SMALL, "ofEdge(9, 0, " + what + ")", Call.ARGUMENT);
        }
        Bounds.dueAll(Stories.SMALL, "ofEdge(9, 0, 0) = 1", "ofEdge(9, 0, 5) = 1");
    }

    static void promise10InItsPlace() {
        Story story = Story.members(3).then("edge(0, 1, 0, 50)", "edge(0, 1, 0, 99)", "edge(1, 0, 0, 99)",
                "edge(1, 2, 0, 0)");
        Bounds.dueAll(story, "ofEdge(4, 0, 4) = -1", "ofEdge(5, 0, 4) = 1", "ofEdge(6, 0, 4) = 1",
                "ofEdge(6, 1, 4) = -1", "ofEdge(6, 2, 4) = -1", "ofEdge(7, 3, 4) = -1", "ofEdge(3, 0, 4) = -1");
        Bounds.dueAll(story.then("cut(0)", "cut(1)"), "ofEdge(8, 0, 4) = -1", "ofEdge(8, 1, 4) = 2",
                "ofEdge(8, 2, 4) = -1", "ofEdge(9, 1, 4) = -1", "ofEdge(9, 2, 4) = -1", "ofEdge(9, 2, 2) = 1");
        Bounds.dueAll(Stories.FULL, "ofEdge(249, 0, 4) = 23", "ofEdge(249, 22, 4) = 23", "ofEdge(249, 23, 4) = -1",
                "ofEdge(249, 59, 4) = -1", "ofEdge(83, 0, 4) = 23", "ofEdge(47, 0, 4) = -1");
    }

    static void promise10FirstAndLastEdgeOfAFullHouse() {
        String[] first = {"1", "0", "1", "0", "23", "1"};
        String[] last = {"1", "0", "0", "1", "-1", "0"};
        for (int what = 0; what <= 5; what++) {
            Bounds.due(Stories.FULL, "ofEdge(249, 0, " + what + ")", first[what]);
            Bounds.due(Stories.FULL, "ofEdge(249, 59, " + what + ")", last[what]);
        }
    }

    // ---- promise 11

    static void promise11EdgesThatWereNeverTold() {
        for (int edge : Bounds.outside(4)) {
            Bounds.refused(Stories.SMALL, "told(" + edge + ", 0)", Call.INDEX);
        }
        Bounds.due(Stories.EMPTY, "told(0, 0)", Call.INDEX);
        Bounds.dueAll(Stories.FULL, "told(59, 0) = 23", "told(60, 0) = " + Call.INDEX);
    }

    static void promise11WhatFrom0To5() {
        for (int what : NOT_0_TO_5) {
            Bounds.refused(Stories.SMALL, "told(3, " + what + ")", Call.ARGUMENT);
        }
        Bounds.dueAll(Stories.SMALL, "told(3, 0) = 1", "told(3, 1) = 0", "told(3, 2) = -3", "told(3, 3) = 5",
                "told(3, 4) = 8", "told(3, 5) = 2");
    }

    static void promise11FirstAndLastStepThatTellsOne() {
        Bounds.dueAll(Stories.PAIR.untilSteps(250), "told(0, 4) = 3", "told(0, 5) = 247");
        Bounds.dueAll(Stories.TWO.untilSteps(249).then("edge(1, 0, 0, 0)"), "told(0, 4) = 249", "told(0, 5) = 1");
    }

    static void promise11StaysToldWithoutItsMembers() {
        Bounds.dueAll(Stories.GONE.then("back(0)"), "told(2, 0) = 3", "told(2, 1) = 2", "told(2, 2) = 1",
                "told(2, 3) = 1", "told(2, 4) = 7", "told(2, 5) = 1", "told(0, 5) = 6", "told(1, 5) = 2");
    }
}
