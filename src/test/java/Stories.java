/** The houses at which the tests of boundary cases look. */
final class Stories {
    /** One STEP, and nothing else. */
    static final Story EMPTY = Story.of();
    static final Story ONE = Story.members(1);
    static final Story TWO = Story.members(2);
    /** STEP 3 has EDGE 0. */
    static final Story PAIR = TWO.then("edge(0, 1, 3, 5)");
    /** STEPS 1 to 4 tell MEMBERS, 5 to 8 EDGES (2 quarrels, 3 is double); 9 cuts EDGE 1. */
    static final Story SMALL = Story.members(4).then("edge(0, 1, 3, 5)", "edge(1, 2, 4, 1)", "edge(2, 0, -6, 9)",
            "edge(1, 0, -3, 5)", "cut(1)");
    /** MEMBERS 2 and 3 and all EDGES but 0 were there at STEP 7, and are gone since STEP 8. */
    static final Story GONE = PAIR.then("member()", "member()", "edge(1, 2, 1, 1)", "edge(3, 2, 1, 1)", "back(3)");
    /** 24 MEMBERS, one ring of 23 EDGES that rise by 99 and 37 more from its end to its start; 250 STEPS. */
    static final Story FULL = ring().untilSteps(250);
    /** 24 MEMBERS and 60 EDGES of all kinds, all LIVE NOW; many CUTS and JOINS ahead of that; 250 STEPS. */
    static final Story TANGLED = tangled(84, 0);
    /** The same with few LIVE EDGES, so that there are many GROUPS. */
    static final Story LOOSE = tangled(42, 7);
    /** 23 MEMBERS and 59 EDGES, one of them not LIVE, and 249 STEPS: each act has room for one more. */
    static final Story NEARLY = nearly();

    private Stories() {
    }

    /** Has 84 acts, so NOW is STEP 84. */
    static Story ring() {
        Story story = Story.members(24);
        for (int i = 0; i < 23; i++) {
            story = story.then("edge(" + i + ", " + (i + 1) + ", 99, " + i + ")");
        }
        return story.times(37, "edge(23, 0, -99, 99)");
    }

    private static Story spread() {
        Story story = Story.members(24);
        for (int i = 0; i < 60; i++) {
            int from = i * 5 % 24;
            int to = (i * 7 + 3 + i / 24) % 24;
            int end = to == from ? (to + 1) % 24 : to;
            int difference = i % 3 == 0 ? end - from : i * 37 % 199 - 99;
            story = story.then("edge(" + from + ", " + end + ", " + difference + ", " + i * 53 % 100 + ")");
        }
        return story;
    }

    /** Ends with so many steps back and forth, the last one to the STEP that is told. */
    private static Story tangled(int end, int first) {
        Story story = spread();
        for (int i = first; story.calls() < 244; i++) {
            int one = i * 11 % 60;
            int other = (i * 11 + 30) % 60;
            story = story.then("cut(" + one + ")", "cut(" + other + ")", "join(" + one + ")", "back(84)");
        }
        return story.then("back(84)", "cut(59)", "join(59)", "back(0)", "back(" + end + ")");
    }

    private static Story nearly() {
        Story story = Story.members(23);
        for (int i = 0; i < 59; i++) {
            story = story.then("edge(" + i % 23 + ", " + (i + 1 + i / 23) % 23 + ", " + i + ", " + i + ")");
        }
        return story.then("cut(58)").untilSteps(249);
    }
}
