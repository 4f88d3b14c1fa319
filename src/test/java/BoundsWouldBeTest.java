import java.math.BigInteger;
import java.util.ArrayList;
import java.util.List;

/** The boundary cases of promises 21 to 26. */
public final class BoundsWouldBeTest {
    public static void main(String[] args) {
        Bounds.run(BoundsWouldBeTest.class);
    }

    // ---- promise 21

    static void promise21MembersThatAreNotThere() {
        for (int member : Bounds.outside(4)) {
            Bounds.refused(Stories.SMALL, "wouldJoin(" + member + ", 0)", Call.INDEX);
            Bounds.refused(Stories.SMALL, "wouldJoin(0, " + member + ")", Call.INDEX);
        }
        Bounds.due(Stories.EMPTY, "wouldJoin(0, 1)", Call.INDEX);
        Bounds.due(Stories.ONE, "wouldJoin(0, 1)", Call.INDEX);
        Bounds.due(Stories.ONE, "wouldJoin(1, 0)", Call.INDEX);
        Bounds.dueAll(Stories.SMALL, "wouldJoin(3, 0) = 1", "wouldJoin(0, 3) = 1", "wouldJoin(0, 2) = 2");
    }

    static void promise21MembersThatAreGone() {
        Bounds.refused(Stories.GONE, "wouldJoin(2, 0)", Call.INDEX);
        Bounds.refused(Stories.GONE, "wouldJoin(0, 3)", Call.INDEX);
        Bounds.dueInTurn(Stories.GONE, "wouldJoin(0, 1) = 1", "member() = 2", "wouldJoin(2, 0) = 1",
                "wouldJoin(0, 1) = 2");
    }

    static void promise21BothTheSame() {
        for (int member = 0; member < 4; member++) {
            Bounds.refused(Stories.SMALL, "wouldJoin(" + member + ", " + member + ")", Call.ARGUMENT);
        }
        Bounds.due(Stories.ONE, "wouldJoin(0, 0)", Call.ARGUMENT);
        Bounds.due(Stories.FULL, "wouldJoin(23, 23)", Call.ARGUMENT);
    }

    static void promise21AlsoWhereNoEdgeCanBeTold() {
        Bounds.dueAll(Stories.FULL, "wouldJoin(0, 23) = 1", "wouldJoin(23, 22) = 1");
        Bounds.dueAll(Stories.ring().then("back(24)"), "wouldJoin(0, 23) = 23", "wouldJoin(22, 23) = 23");
        Bounds.dueAll(Stories.TWO.untilSteps(250), "wouldJoin(0, 1) = 1");
        Bounds.dueAll(Stories.TWO, "wouldJoin(1, 0) = 1", "of(2, 2) = 2");
    }

    // ---- promise 22

    static void promise22NoneWithoutABridge() {
        Bounds.due(Stories.EMPTY, "bestCut()", -1);
        Bounds.due(Stories.TWO, "bestCut()", -1);
        Bounds.due(Stories.TWO.times(2, "edge(0, 1, 0, 0)"), "bestCut()", -1);
        Bounds.due(Stories.FULL, "bestCut()", -1);
        Bounds.due(Stories.PAIR.then("cut(0)"), "bestCut()", -1);
        Bounds.due(Stories.PAIR.then("back(1)"), "bestCut()", -1);
        Bounds.due(Stories.PAIR, "bestCut()", 0);
    }

    static void promise22TheFirstOfSeveralAsGood() {
        Bounds.due(Story.members(4).then("edge(2, 3, 0, 0)", "edge(0, 1, 0, 0)"), "bestCut()", 0);
        Bounds.due(Story.members(4).then("edge(2, 3, 0, 0)", "edge(1, 0, 0, 0)", "edge(1, 2, 0, 0)"), "bestCut()", 2);
        Bounds.due(Stories.TWO.times(60, "edge(0, 1, 0, 0)").then("back(61)", "back(2)", "join(59)"), "bestCut()", 59);
    }

    static void promise22HalfOfAllMembers() {
        Story ring = Stories.ring();
        Bounds.due(ring.then("back(47)"), "bestCut()", 11);
        Bounds.due(ring.then("back(46)"), "bestCut()", 10);
        Bounds.due(ring.then("back(25)", "join(59)"), "bestCut()", 0);
    }

    // ---- promise 23

    static void promise23MembersThatAreNotThere() {
        for (int member : Bounds.outside(4)) {
            Bounds.refused(Stories.SMALL, "undo(" + member + ", 0)", Call.INDEX);
            Bounds.refused(Stories.SMALL, "undo(0, " + member + ")", Call.INDEX);
        }
        Bounds.due(Stories.EMPTY, "undo(0, 1)", Call.INDEX);
        Bounds.due(Stories.ONE, "undo(0, 1)", Call.INDEX);
        Bounds.refused(Stories.GONE, "undo(2, 0)", Call.INDEX);
        Bounds.refused(Stories.GONE, "undo(0, 3)", Call.INDEX);
    }

    static void promise23BothTheSame() {
        for (int member = 0; member < 4; member++) {
            Bounds.refused(Stories.SMALL, "undo(" + member + ", " + member + ")", Call.ARGUMENT);
        }
        Bounds.due(Stories.ONE, "undo(0, 0)", Call.ARGUMENT);
        Bounds.due(Stories.FULL, "undo(23, 23)", Call.ARGUMENT);
    }

    static void promise23NotTogetherNow() {
        Bounds.dueAll(Stories.SMALL, "undo(0, 3) = 0", "undo(3, 2) = 0");
        Bounds.due(Stories.TWO, "undo(0, 1)", 0);
        Bounds.due(Stories.PAIR.then("cut(0)"), "undo(0, 1)", 0);
        Bounds.due(Stories.PAIR.then("back(2)"), "undo(0, 1)", 0);
    }

    static void promise23OneStepAndAllSteps() {
        Bounds.due(Stories.PAIR, "undo(0, 1)", 1);
        Bounds.due(Stories.PAIR.then("back(3)"), "undo(1, 0)", 2);
        Bounds.due(Stories.PAIR.untilSteps(250), "undo(0, 1)", 247);
        Bounds.dueAll(Stories.FULL, "undo(0, 23) = 203", "undo(0, 1) = 225", "undo(1, 0) = 225");
        Bounds.due(Stories.TWO.untilSteps(249).then("edge(0, 1, 0, 0)"), "undo(0, 1)", 1);
    }

    static void promise23OneOfThemIsNotThere() {
        Bounds.due(Stories.PAIR.then("back(0)", "back(3)"), "undo(0, 1)", 1);
        Bounds.due(Stories.PAIR.then("back(1)", "back(3)", "back(3)"), "undo(0, 1)", 2);
        Bounds.dueAll(Stories.GONE.then("back(7)"), "undo(0, 2) = 1", "undo(3, 2) = 1", "undo(0, 1) = 7");
        Bounds.dueAll(Stories.GONE.then("back(6)", "back(7)"), "undo(1, 2) = 2", "undo(3, 2) = 1");
    }

    // ---- promise 24

    static void promise24NoneAndAll() {
        Bounds.due(Stories.EMPTY, "mend()", 0);
        Bounds.due(Stories.PAIR, "mend()", 0);
        Bounds.due(Stories.TWO.times(60, "edge(0, 1, 9, 0)"), "mend()", 0);
        Story story = Stories.TWO.then("edge(0, 1, 9, 0)").times(59, "edge(1, 0, 9, 0)");
        Bounds.due(story, "mend()", (1L << 60) - 2);
        Bounds.due(story.then("back(61)"), "mend()", (1L << 59) - 2);
        Bounds.due(story.then("cut(0)"), "mend()", 0);
        Bounds.due(Stories.FULL, "mend()", (1L << 60) - (1L << 23));
    }

    static void promise24OnlyThoseThatAreLiveNow() {
        Bounds.due(Stories.SMALL, "mend()", 0);
        Bounds.due(Stories.SMALL.then("back(8)"), "mend()", 4);
        Bounds.due(Stories.SMALL.then("back(8)", "cut(2)"), "mend()", 0);
        Bounds.due(Stories.SMALL.then("back(7)", "back(0)"), "mend()", 0);
    }

    // ---- promise 25

    static void promise25AlwaysSo() {
        for (Story story : new Story[] {Stories.EMPTY, Stories.ONE, Stories.SMALL, Stories.GONE, Stories.FULL,
            Stories.TANGLED, Stories.LOOSE, Stories.NEARLY, Stories.GONE.then("back(0)"), Story.members(24)}) {
            Bounds.due(story, "isSound()", true);
        }
    }

    // ---- promise 26

    /** What the checksum is made of, in the order of the document. */
    private static List<Call> parts(Story story) {
        Model model = story.model();
        int now = model.now();
        int members = model.members.get(now);
        List<Call> calls = new ArrayList<>();
        putEach(calls, "house(", 0, 7);
        putEach(calls, "of(" + now + ", ", 0, 11);
        for (int member = 0; member < members; member++) {
            putEach(calls, "ofMember(" + now + ", " + member + ", ", 0, 10);
        }
        for (int edge = 0; edge < model.edges.size(); edge++) {
            putEach(calls, "told(" + edge + ", ", 4, 5);
            putEach(calls, "ofEdge(" + now + ", " + edge + ", ", 0, 5);
        }
        for (int step = 0; step <= now; step++) {
            calls.add(Call.of("live(" + step + ")"));
            calls.add(Call.of("of(" + step + ", 2)"));
        }
        for (int member = 0; member < members; member++) {
            for (int smaller = 0; smaller < member; smaller++) {
                calls.add(Call.of("held(" + now + ", " + member + ", " + smaller + ")"));
            }
        }
        putEach(calls, "together(0, 1, ", 0, 3);
        calls.add(Call.of("bestCut()"));
        calls.add(Call.of("mend()"));
        calls.add(Call.of("mean()"));
        calls.add(Call.of("isSound()"));
        return calls;
    }

    private static void putEach(List<Call> calls, String start, int first, int last) {
        for (int what = first; what <= last; what++) {
            calls.add(Call.of(start + what + ")"));
        }
    }

    /** The checksum before it wraps around, however great. */
    private static BigInteger unbounded(Story story) {
        List<Call> calls = parts(story);
        List<String> answers = story.ask(calls);
        BigInteger d = BigInteger.valueOf(5059);
        for (int i = 0; i < calls.size(); i++) {
            String answer = answers.get(i);
            switch (calls.get(i).text) {
                case "mean()":
                    answer = String.valueOf((long) (Double.parseDouble(answer) * 64.0));
                    break;
                case "isSound()":
                    answer = answer.equals("true") ? "1" : "0";
                    break;
                default:
                    break;
            }
            d = d.multiply(BigInteger.valueOf(31)).add(new BigInteger(answer));
        }
        return d;
    }

    static void promise26WrapsAroundAt64Bits() {
        for (Story story : new Story[] {Stories.EMPTY, Stories.ONE, Stories.TWO, Stories.PAIR, Stories.SMALL,
            Stories.GONE, Stories.FULL, Stories.TANGLED, Stories.LOOSE, Stories.NEARLY, Story.members(24)}) {
            BigInteger d = unbounded(story);
            Bounds.same("more than 64 bits", d.bitLength() > 64, true);
            Bounds.due(story, "digest()", d.longValue());
        }
    }

    /** The number was worked out apart from any program of this project. */
    static void promise26NewHouse() {
        Bounds.due(Stories.EMPTY, "digest()", 6817673087609089188L);
    }

    static void promise26IsTheSameAgain() {
        Undogroups house = Stories.FULL.tell();
        long first = house.digest();
        Bounds.same("again", house.digest(), first);
        house.held(100, 0, 1);
        house.ofMember(30, 0, 7);
        house.ofEdge(12, 0, 4);
        Bounds.same("behind questions as of other steps", house.digest(), first);
    }

    /** 64 times the mean is cut, not rounded: here it is 2/3, 7/6 and 5/6. */
    static void promise26MeanIsCut() {
        for (Story story : new Story[] {Stories.ONE.then("back(1)"), Stories.PAIR.then("cut(0)", "back(1)"),
            Stories.PAIR.then("back(3)", "back(0)")}) {
            Bounds.due(story, "digest()", unbounded(story).longValue());
        }
    }
}
