/** The boundary cases of promises 1 to 7. */
public final class BoundsOfActsTest {
    public static void main(String[] args) {
        Bounds.run(BoundsOfActsTest.class);
    }

    // ---- promise 1

    static void promise01NewHouseHasNoMembers() {
        Bounds.dueAll(Stories.EMPTY, "house(0) = 1", "house(1) = 0", "house(2) = 0", "house(3) = 0", "house(4) = 0",
                "house(5) = 0", "house(6) = 1", "house(7) = 0", "of(0, 0) = 0", "of(0, 1) = 0", "row(0) = ",
                "live(0) = 0");
        Bounds.agrees(Stories.EMPTY);
    }

    static void promise01HousesHaveNothingInCommon() {
        Undogroups full = Stories.FULL.tell();
        Undogroups other = new Undogroups();
        Bounds.same("another's steps", other.house(0), 1);
        Bounds.same("another's member()", other.member(), 0);
        Bounds.same("the first one's members", full.house(1), 24);
        Bounds.same("the first one's steps", full.house(0), 250);
    }

    // ---- promise 2

    static void promise02MembersUpTo24() {
        Bounds.dueInTurn(Stories.EMPTY, "member() = 0", "member() = 1", "of(2, 0) = 2", "row(2) = 0|1");
        Bounds.dueInTurn(Story.members(23), "member() = 23", "house(1) = 24", "of(24, 0) = 24", "of(24, 2) = 24",
                "ofMember(24, 23, 0) = 23", "ofMember(24, 23, 1) = 1", "ofMember(24, 23, 4) = 0");
    }

    static void promise02TwentyFiveAreTooMany() {
        Bounds.refused(Story.members(24), "member()", Call.STATE);
        Bounds.refused(Story.members(24).then("edge(0, 23, 0, 0)"), "member()", Call.STATE);
    }

    static void promise02OnlyThoseThatAreThereNowCount() {
        Story again = Story.members(24).then("back(23)");
        Bounds.dueInTurn(again, "house(1) = 23", "member() = 23", "member() = " + Call.STATE, "house(1) = 24");
        Bounds.dueInTurn(Story.members(24).then("back(0)"), "member() = 0", "member() = 1", "house(1) = 2");
        Bounds.refused(Story.members(24).then("back(23)", "back(24)"), "member()", Call.STATE);
    }

    static void promise02The250thStepIsTheLast() {
        Bounds.dueInTurn(Stories.ONE.untilSteps(249), "member() = 1", "house(0) = 250", "house(1) = 2",
                "member() = " + Call.STATE, "house(0) = 250");
        Bounds.refused(Stories.EMPTY.untilSteps(250), "member()", Call.STATE);
        Bounds.refused(Stories.FULL, "member()", Call.STATE);
    }

    // ---- promise 3

    static void promise03FromThatIsNotThere() {
        for (int from : Bounds.outside(4)) {
            Bounds.refused(Stories.SMALL, "edge(" + from + ", 0, 0, 0)", Call.INDEX);
        }
        Bounds.due(Stories.SMALL, "edge(3, 0, 0, 0)", 4);
        Bounds.due(Stories.SMALL, "edge(0, 3, 0, 0)", 4);
    }

    static void promise03ToThatIsNotThere() {
        for (int to : Bounds.outside(4)) {
            Bounds.refused(Stories.SMALL, "edge(0, " + to + ", 0, 0)", Call.INDEX);
        }
    }

    static void promise03NobodyIsThere() {
        Bounds.refused(Stories.EMPTY, "edge(0, 1, 0, 0)", Call.INDEX);
        Bounds.refused(Stories.EMPTY, "edge(0, 0, 0, 0)", Call.INDEX);
        Bounds.refused(Stories.ONE, "edge(0, 1, 0, 0)", Call.INDEX);
        Bounds.refused(Stories.ONE, "edge(1, 0, 0, 0)", Call.INDEX);
        Bounds.refused(Stories.ONE, "edge(0, 0, 0, 0)", Call.ARGUMENT);
    }

    static void promise03MembersThatAreGone() {
        for (String call : new String[] {"edge(2, 0, 0, 0)", "edge(0, 2, 0, 0)", "edge(3, 1, 0, 0)",
            "edge(2, 3, 0, 0)", "edge(3, 3, 0, 0)"}) {
            Bounds.refused(Stories.GONE, call, Call.INDEX);
        }
        Bounds.dueInTurn(Stories.GONE, "member() = 2", "edge(2, 0, 0, 0) = 3", "live(10) = 9");
    }

    static void promise03BothTheSame() {
        for (int member = 0; member < 4; member++) {
            Bounds.refused(Stories.SMALL, "edge(" + member + ", " + member + ", 0, 0)", Call.ARGUMENT);
        }
        Bounds.due(Story.members(24), "edge(23, 23, 0, 0)", Call.ARGUMENT);
    }

    static void promise03DifferenceFromMinus99To99() {
        for (int difference : new int[] {-100, 100, Integer.MIN_VALUE, Integer.MIN_VALUE + 99, Integer.MAX_VALUE}) {
            Bounds.refused(Stories.SMALL, "edge(0, 1, " + difference + ", 0)", Call.ARGUMENT);
        }
        for (int difference : new int[] {-99, -98, 0, 98, 99}) {
            Bounds.dueInTurn(Stories.SMALL, "edge(3, 0, " + difference + ", 0) = 4", "told(4, 2) = " + difference,
                    "apart(10, 3, 0) = " + difference, "apart(10, 0, 3) = " + -difference);
        }
    }

    static void promise03CostFrom0To99() {
        for (int cost : new int[] {-1, 100, Integer.MIN_VALUE, Integer.MAX_VALUE}) {
            Bounds.refused(Stories.SMALL, "edge(0, 1, 0, " + cost + ")", Call.ARGUMENT);
        }
        for (int cost : new int[] {0, 1, 98, 99}) {
            Bounds.dueInTurn(Stories.TWO, "edge(1, 0, 0, " + cost + ") = 0", "told(0, 3) = " + cost,
                    "of(3, 10) = " + cost);
        }
    }

    static void promise03EdgesUpTo60() {
        Story before = Stories.TWO.times(59, "edge(0, 1, 0, 0)");
        Bounds.dueInTurn(before, "edge(1, 0, 0, 0) = 59", "house(2) = 60", "live(62) = " + ((1L << 60) - 1),
                "edge(0, 1, 0, 0) = " + Call.STATE, "house(2) = 60", "house(0) = 63");
        Story all = before.then("edge(1, 0, 0, 0)");
        Bounds.refused(all, "edge(0, 1, 0, 0)", Call.STATE);
        Bounds.refused(all.then("cut(0)", "cut(59)"), "edge(0, 1, 0, 0)", Call.STATE);
        Bounds.refused(all.then("back(2)"), "edge(0, 1, 0, 0)", Call.STATE);
    }

    static void promise03EdgesToldEverCountAlsoWithoutTheirMembers() {
        Story gone = Stories.TWO.then("member()").times(59, "edge(2, 1, 0, 0)").then("back(2)");
        Bounds.dueInTurn(gone, "edge(0, 1, 0, 0) = 59", "live(64) = " + (1L << 59), "of(64, 1) = 1",
                "edge(0, 1, 0, 0) = " + Call.STATE);
    }

    static void promise03The250thStepIsTheLast() {
        Bounds.dueInTurn(Stories.SMALL.untilSteps(249), "edge(2, 3, 0, 0) = 4", "house(0) = 250", "told(4, 4) = 249",
                "told(4, 5) = 1", "edge(2, 3, 0, 0) = " + Call.STATE, "house(2) = 5");
        Bounds.refused(Stories.SMALL.untilSteps(250), "edge(2, 3, 0, 0)", Call.STATE);
    }

    // ---- promise 4

    static void promise04EdgesThatWereNeverTold() {
        for (int edge : Bounds.outside(4)) {
            Bounds.refused(Stories.SMALL, "cut(" + edge + ")", Call.INDEX);
        }
        Bounds.refused(Stories.EMPTY, "cut(0)", Call.INDEX);
        Bounds.refused(Stories.TWO, "cut(0)", Call.INDEX);
        Bounds.due(Stories.TWO.times(60, "edge(0, 1, 0, 0)"), "cut(59)", 1);
        Bounds.due(Stories.TWO.times(60, "edge(0, 1, 0, 0)"), "cut(60)", Call.INDEX);
    }

    static void promise04EdgesThatAreNotLiveNow() {
        Bounds.refused(Stories.SMALL, "cut(1)", Call.STATE);
        Bounds.refused(Stories.SMALL.then("back(5)"), "cut(3)", Call.STATE);
        Bounds.refused(Stories.GONE, "cut(1)", Call.STATE);
        Bounds.refused(Stories.PAIR.then("back(1)"), "cut(0)", Call.STATE);
        Bounds.refused(Stories.PAIR.then("back(0)"), "cut(0)", Call.STATE);
        Bounds.dueInTurn(Stories.PAIR.then("back(0)", "back(3)"), "cut(0) = 2", "cut(0) = " + Call.STATE);
    }

    static void promise04GroupsThatThereAreThen() {
        Bounds.dueInTurn(Stories.SMALL, "cut(0) = 2", "cut(3) = 3", "cut(2) = 4", "house(3) = 4");
        Bounds.dueInTurn(Stories.ring(), "cut(0) = 1", "cut(22) = 2", "cut(59) = 2");
        Bounds.due(Story.members(24).then("edge(0, 23, 0, 0)"), "cut(0)", 24);
    }

    static void promise04The250thStepIsTheLast() {
        Bounds.dueInTurn(Stories.SMALL.untilSteps(249), "cut(0) = 2", "house(0) = 250", "house(3) = 2",
                "cut(2) = " + Call.STATE, "house(3) = 2");
        Bounds.refused(Stories.SMALL.untilSteps(250), "cut(0)", Call.STATE);
        Bounds.refused(Stories.SMALL.untilSteps(250), "cut(1)", Call.STATE);
    }

    // ---- promise 5

    static void promise05EdgesThatWereNeverTold() {
        for (int edge : Bounds.outside(4)) {
            Bounds.refused(Stories.SMALL, "join(" + edge + ")", Call.INDEX);
        }
        Bounds.refused(Stories.EMPTY, "join(0)", Call.INDEX);
        Bounds.due(Stories.TWO.times(60, "edge(0, 1, 0, 0)").then("cut(59)"), "join(59)", 1);
        Bounds.due(Stories.TWO.times(60, "edge(0, 1, 0, 0)").then("cut(59)"), "join(60)", Call.INDEX);
    }

    static void promise05EdgesThatAreLiveNow() {
        Bounds.refused(Stories.SMALL, "join(0)", Call.STATE);
        Bounds.refused(Stories.SMALL.then("back(4)", "back(7)"), "join(2)", Call.STATE);
        Bounds.dueInTurn(Stories.SMALL, "join(1) = 2", "join(1) = " + Call.STATE, "house(4) = 1");
    }

    static void promise05OneOfItsMembersIsNotThere() {
        Bounds.refused(Stories.GONE, "join(1)", Call.STATE);
        Bounds.refused(Stories.GONE, "join(2)", Call.STATE);
        Story three = Stories.GONE.then("member()");
        Bounds.refused(three, "join(2)", Call.STATE);
        Bounds.due(three, "join(1)", 1);
        Bounds.dueInTurn(three.then("member()"), "join(2) = 2", "row(11) = 0,1|2,3", "join(1) = 1", "live(12) = 7");
        Bounds.refused(Stories.PAIR.then("back(1)"), "join(0)", Call.STATE);
        Bounds.refused(Stories.PAIR.then("back(0)"), "join(0)", Call.STATE);
        Bounds.due(Stories.PAIR.then("back(2)"), "join(0)", 1);
        Story toFirst = Story.members(24).then("edge(23, 0, 0, 0)", "edge(0, 23, 0, 0)", "back(23)");
        Bounds.refused(toFirst, "join(0)", Call.STATE);
        Bounds.refused(toFirst, "join(1)", Call.STATE);
        Bounds.dueInTurn(toFirst.then("member()"), "join(0) = 23", "join(1) = 23");
    }

    static void promise05GroupsThatThereAreThen() {
        Bounds.dueInTurn(Stories.ring().then("back(24)"), "join(59) = 23", "join(58) = 23", "join(0) = 22",
                "house(4) = 3");
        Bounds.due(Stories.TWO.then("edge(0, 1, 0, 0)", "cut(0)"), "join(0)", 1);
    }

    static void promise05The250thStepIsTheLast() {
        Bounds.dueInTurn(Stories.SMALL.then("cut(0)").untilSteps(249), "join(1) = 2", "house(0) = 250",
                "house(4) = 1", "join(0) = " + Call.STATE, "house(4) = 1");
        Bounds.refused(Stories.SMALL.untilSteps(250), "join(1)", Call.STATE);
        Bounds.refused(Stories.SMALL.untilSteps(250), "join(0)", Call.STATE);
        Bounds.refused(Stories.GONE.untilSteps(250), "join(1)", Call.STATE);
    }

    // ---- promise 6

    static void promise06StepsThatAreNot() {
        for (int step : Bounds.outside(10)) {
            Bounds.refused(Stories.SMALL, "back(" + step + ")", Call.INDEX);
        }
        Bounds.refused(Stories.EMPTY, "back(1)", Call.INDEX);
        Bounds.refused(Stories.EMPTY, "back(-1)", Call.INDEX);
    }

    static void promise06FirstAndLastStep() {
        Bounds.dueInTurn(Stories.EMPTY, "back(0) = 1", "back(1) = 2", "house(5) = 2", "house(6) = 1");
        Bounds.dueInTurn(Stories.SMALL, "back(9) = 10", "live(10) = 13", "twin(10) = 9", "back(0) = 11",
                "live(11) = 0", "of(11, 0) = 0", "twin(11) = 0", "back(8) = 12", "live(12) = 15", "of(12, 0) = 4");
    }

    static void promise06The250thStepIsTheLast() {
        Bounds.dueInTurn(Stories.SMALL.untilSteps(249), "back(248) = 249", "back(249) = " + Call.STATE,
                "back(0) = " + Call.STATE, "house(0) = 250");
        Bounds.refused(Stories.SMALL.untilSteps(250), "back(249)", Call.STATE);
        Bounds.refused(Stories.SMALL.untilSteps(250), "back(0)", Call.STATE);
    }

    static void promise06LaterMembersAndEdgesAreNotThere() {
        Bounds.dueAll(Stories.GONE, "house(1) = 2", "house(2) = 3", "row(8) = 0,1", "row(7) = 0,1,2,3", "live(8) = 1",
                "told(2, 0) = 3", "told(2, 5) = 1", "member() = 2");
        Bounds.agrees(Stories.GONE);
        Bounds.agrees(Stories.GONE.then("member()", "member()", "join(2)", "back(7)", "cut(0)"));
    }

    // ---- promise 7

    static void promise07CountsFromOne() {
        Bounds.dueInTurn(Stories.EMPTY, "call() = 1", "call() = 2", "house(7) = 2", "house(0) = 1");
        Bounds.dueInTurn(Stories.FULL, "call() = 1", "house(7) = 1", "house(0) = 250");
        Bounds.dueInTurn(Stories.EMPTY, "member() = 0", "cut(0) = " + Call.INDEX, "house(7) = 0", "call() = 1",
                "back(0) = 2", "call() = 2");
    }

    static void promise07CountsUpToThe512thCall() {
        Undogroups house = new Undogroups();
        for (int i = 1; i <= 512; i++) {
            Bounds.same("call() " + i, house.call(), i);
        }
    }

    // ---- the 250th STEP by each act, and none behind it by any other

    static void promise02To06EachActOnceMoreAtTheEndOfAll() {
        String[] acts = {"member() = 23", "edge(22, 0, 99, 99) = 59", "cut(57) = 1", "join(58) = 1",
            "back(248) = 249"};
        for (String act : acts) {
            Bounds.dueInTurn(Stories.NEARLY, act, "house(0) = 250", "member() = " + Call.STATE,
                    "edge(0, 1, 0, 0) = " + Call.STATE, "cut(0) = " + Call.STATE, "join(58) = " + Call.STATE,
                    "back(249) = " + Call.STATE, "house(0) = 250");
        }
    }
}
