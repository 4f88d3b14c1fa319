/** The boundary cases of promises 12 to 15. */
public final class BoundsOfPairsTest {
    public static void main(String[] args) {
        Bounds.run(BoundsOfPairsTest.class);
    }

    /** 24 MEMBERS, each one's LEVEL so much above the one before. */
    private static Story stairs(int difference) {
        Story story = Story.members(24);
        for (int i = 1; i < 24; i++) {
            story = story.then("edge(" + (i - 1) + ", " + i + ", " + difference + ", 0)");
        }
        return story;
    }

    // ---- promise 12

    static void promise12StepsThatAreNot() {
        for (int step : Bounds.outside(10)) {
            Bounds.refused(Stories.SMALL, "apart(" + step + ", 0, 1)", Call.INDEX);
        }
        Bounds.dueAll(Stories.SMALL, "apart(9, 0, 1) = 3", "apart(0, 0, 0) = " + Call.INDEX, "apart(1, 0, 0) = 0");
    }

    static void promise12MembersThatAreNotThere() {
        for (int member : Bounds.outside(4)) {
            Bounds.refused(Stories.SMALL, "apart(9, " + member + ", 0)", Call.INDEX);
            Bounds.refused(Stories.SMALL, "apart(9, 0, " + member + ")", Call.INDEX);
            Bounds.refused(Stories.SMALL, "apart(9, " + member + ", " + member + ")", Call.INDEX);
        }
        Bounds.dueAll(Stories.SMALL, "apart(9, 3, 3) = 0", "apart(3, 3, 0) = " + Call.INDEX,
                "apart(3, 0, 3) = " + Call.INDEX, "apart(3, 2, 2) = 0");
    }

    static void promise12MembersThatAreGone() {
        Bounds.refused(Stories.GONE, "apart(8, 2, 0)", Call.INDEX);
        Bounds.refused(Stories.GONE, "apart(8, 0, 3)", Call.INDEX);
        Bounds.refused(Stories.GONE, "apart(8, 2, 2)", Call.INDEX);
        Bounds.dueAll(Stories.GONE, "apart(7, 0, 3) = 3", "apart(7, 3, 0) = -3", "apart(8, 0, 1) = 3");
    }

    static void promise12NotTogether() {
        Bounds.refused(Stories.SMALL, "apart(9, 0, 3)", Call.STATE);
        Bounds.refused(Stories.SMALL, "apart(9, 3, 2)", Call.STATE);
        Bounds.refused(Stories.SMALL, "apart(4, 0, 1)", Call.STATE);
        Bounds.refused(Stories.SMALL.then("cut(2)"), "apart(10, 0, 2)", Call.STATE);
        Bounds.dueAll(Stories.SMALL, "apart(5, 0, 1) = 3", "apart(9, 0, 2) = 6", "apart(8, 0, 2) = 7");
    }

    static void promise12OneOfItself() {
        for (int member = 0; member < 24; member++) {
            Bounds.due(Stories.FULL, "apart(249, " + member + ", " + member + ")", 0);
            Bounds.due(Story.members(24), "apart(24, " + member + ", " + member + ")", 0);
        }
    }

    static void promise12FarthestApart() {
        Bounds.dueAll(stairs(99), "apart(47, 0, 23) = 2277", "apart(47, 23, 0) = -2277", "apart(47, 22, 23) = 99");
        Bounds.dueAll(stairs(-99), "apart(47, 0, 23) = -2277", "apart(47, 23, 0) = 2277");
        Bounds.dueAll(Stories.FULL, "apart(249, 0, 23) = 2277", "apart(46, 0, 23) = " + Call.STATE);
    }

    // ---- promise 13

    static void promise13StepsThatAreNot() {
        for (int step : Bounds.outside(10)) {
            Bounds.refused(Stories.SMALL, "held(" + step + ", 0, 1)", Call.INDEX);
        }
        Bounds.dueAll(Stories.SMALL, "held(0, 0, 1) = " + Call.INDEX, "held(1, 0, 1) = " + Call.INDEX,
                "held(2, 0, 1) = 0", "held(9, 0, 1) = 2");
    }

    static void promise13MembersThatAreNotThere() {
        for (int member : Bounds.outside(4)) {
            Bounds.refused(Stories.SMALL, "held(9, " + member + ", 0)", Call.INDEX);
            Bounds.refused(Stories.SMALL, "held(9, 0, " + member + ")", Call.INDEX);
        }
        Bounds.dueAll(Stories.SMALL, "held(9, 3, 0) = 0", "held(9, 0, 3) = 0", "held(3, 3, 0) = " + Call.INDEX,
                "held(3, 0, 3) = " + Call.INDEX);
    }

    static void promise13MembersThatAreGone() {
        Bounds.refused(Stories.GONE, "held(8, 2, 0)", Call.INDEX);
        Bounds.refused(Stories.GONE, "held(8, 0, 3)", Call.INDEX);
        Bounds.dueAll(Stories.GONE, "held(7, 0, 3) = 1", "held(8, 0, 1) = 1");
    }

    static void promise13BothTheSame() {
        for (int member = 0; member < 4; member++) {
            Bounds.refused(Stories.SMALL, "held(9, " + member + ", " + member + ")", Call.ARGUMENT);
        }
        Bounds.refused(Stories.ONE, "held(1, 0, 0)", Call.ARGUMENT);
        Bounds.due(Stories.FULL, "held(249, 23, 23)", Call.ARGUMENT);
    }

    static void promise13NotTogether() {
        Bounds.dueAll(Stories.SMALL, "held(4, 0, 1) = 0", "held(9, 3, 2) = 0", "held(8, 2, 3) = 0");
        Bounds.dueAll(Story.members(24), "held(24, 0, 23) = 0", "held(24, 23, 22) = 0");
        Bounds.due(Stories.PAIR.then("cut(0)"), "held(4, 1, 0)", 0);
    }

    static void promise13FromOneTo60() {
        Story story = Stories.TWO;
        for (int edge = 0; edge < 60; edge++) {
            story = story.then("edge(" + edge % 2 + ", " + (1 - edge % 2) + ", 0, 0)");
            Bounds.due(story, "held(" + (3 + edge) + ", 0, 1)", edge + 1);
        }
        Bounds.dueAll(Stories.FULL, "held(249, 0, 23) = 38", "held(249, 23, 0) = 38", "held(249, 0, 22) = 2",
                "held(249, 11, 12) = 2", "held(47, 0, 23) = 1", "held(46, 0, 23) = 0", "held(48, 0, 1) = 2");
    }

    // ---- promise 14

    static void promise14StepsThatAreNot() {
        for (int step : Bounds.outside(10)) {
            Bounds.refused(Stories.SMALL, "live(" + step + ")", Call.INDEX);
        }
        Bounds.dueAll(Stories.EMPTY, "live(0) = 0", "live(1) = " + Call.INDEX);
        Bounds.dueAll(Stories.FULL, "live(249) = " + ((1L << 60) - 1), "live(250) = " + Call.INDEX);
    }

    static void promise14FromNoneToAll60() {
        Bounds.dueAll(Stories.FULL, "live(24) = 0", "live(25) = 1", "live(56) = 4294967295", "live(57) = 8589934591",
                "live(83) = " + ((1L << 59) - 1), "live(84) = " + ((1L << 60) - 1));
        Story last = Stories.TWO.times(59, "edge(0, 1, 0, 0)").then("back(2)", "edge(0, 1, 0, 0)");
        Bounds.dueAll(last, "live(63) = " + (1L << 59), "live(62) = 0");
        Bounds.dueAll(Stories.ring().then("cut(31)", "cut(32)"), "live(85) = " + ((1L << 60) - 1 - (1L << 31)),
                "live(86) = " + ((1L << 60) - 1 - (3L << 31)));
    }

    // ---- promise 15

    static void promise15StepsThatAreNot() {
        for (int step : Bounds.outside(10)) {
            Bounds.refused(Stories.SMALL, "row(" + step + ")", Call.INDEX);
        }
        Bounds.dueAll(Stories.FULL, "row(250) = " + Call.INDEX, "row(0) = ", "row(1) = 0");
    }

    static void promise15NobodyOneAndAll() {
        String alone = "0|1|2|3|4|5|6|7|8|9|10|11|12|13|14|15|16|17|18|19|20|21|22|23";
        Bounds.due(Stories.EMPTY, "row(0)", "");
        Bounds.due(Stories.ONE.then("back(0)"), "row(2)", "");
        Bounds.due(Stories.ONE, "row(1)", "0");
        Bounds.due(Stories.TWO, "row(2)", "0|1");
        Bounds.due(Stories.PAIR, "row(3)", "0,1");
        Bounds.due(Story.members(24), "row(24)", alone);
        Bounds.due(Stories.FULL, "row(249)", alone.replace('|', ','));
        Bounds.due(Story.members(24).then("edge(23, 0, 0, 0)"), "row(25)", alone.replace("0|1|2|", "0,23|1|2|")
                .replace("22|23", "22"));
    }
}
