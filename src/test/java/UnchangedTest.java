import java.util.ArrayList;
import java.util.List;

/**
 * "What throws changes nothing": in many states, each call that is due to throw is made on one of two
 * objects that are told the same; all that can be seen of the two is the same then.
 */
public final class UnchangedTest {
    private static final int ARRAY = 65536;
    private static final int INT = 65534;
    private static final int LONG = 65535;

    /** What brings a new object into a state, and what throws there. */
    private interface State {
        void bring(FlowJudge j);
    }

    private interface Call {
        long on(FlowJudge j);
    }

    private static String state;
    private static State way;
    private static String untouched;

    public static void main(String[] args) {
        wrongArguments("a new object", j -> { });
        wrongArguments("members and a METHOD", UnchangedTest::members);
        wrongArguments("a METHOD with a switch", UnchangedTest::withSwitch);
        wrongArguments("a kept METHOD", UnchangedTest::kept);
        wrongArguments("a refused METHOD", UnchangedTest::refused);
        wrongArguments("a kept METHOD and another one", UnchangedTest::another);
        wrongArguments("all full", UnchangedTest::full);
        fullStates();
        emptyStates();
        Check.end("UnchangedTest");
    }

    private static void members(FlowJudge j) {
        j.add(0, false);
        j.add(4, false);
        j.add(0, true);
        j.field(4, INT);
        j.field(5, ARRAY + 5);
        j.shape(4, -1, true);
        j.shape(5, LONG, false);
        j.takes(INT);
        j.takes(5);
        j.method(4, 1, -1, 6, 4);
        j.argument(INT);
        j.argument(LONG);
    }

    private static void withSwitch(FlowJudge j) {
        members(j);
        Check.put(j, "3; 170 > 2 3; 177; 177; : 0 1 4 -1; 87; 21 1; 171 > 3");
    }

    private static void kept(FlowJudge j) {
        withSwitch(j);
        Check.same("it is kept", j.judge(), 4);
    }

    private static void refused(FlowJudge j) {
        kept(j);
        Check.put(j, "25 0; 54 0; : 0 1 7 1");
        Check.same("it is refused", j.judge(), -1);
    }

    private static void another(FlowJudge j) {
        kept(j);
        j.method(4, 2, -1, 3, 3);
        j.argument(5);
        Check.put(j, "25 0; 183 0; 168 4; 177; 58 2; 169 2");
    }

    private static void full(FlowJudge j) {
        members(j);
        for (int k = 7; k < 200; k++) {
            j.add(k == 7 ? 0 : k - 1, false);
        }
        for (int k = 2; k < 100; k++) {
            j.field(k, 0);
            j.shape(k == 6 ? 7 : k, -1, k > 3);
        }
        for (int k = 0; k < 20; k++) {
            j.takes(INT);
        }
        for (int k = 2; k < 20; k++) {
            j.argument(65528 + k % 3);
        }
        j.put(170, 0, 0);
        for (int k = 0; k < 50; k++) {
            j.to(0);
            j.row(0, 1, 0, 1);
        }
    }

    // ---- what throws

    private static void enter(String name, State newWay) {
        state = name;
        way = newWay;
        untouched = seen(broughtThere());
    }

    private static FlowJudge broughtThere() {
        FlowJudge j = new FlowJudge();
        way.bring(j);
        return j;
    }

    private static void argument(String what, Call call) {
        throwing(what, call, true);
    }

    private static void stateThrown(String what, Call call) {
        throwing(what, call, false);
    }

    private static void throwing(String what, Call call, boolean isArgument) {
        FlowJudge j = broughtThere();
        String name = state + ": " + what;
        for (int twice = 0; twice < 2; twice++) {
            if (isArgument) {
                Check.badArgument(name, () -> call.on(j));
            } else {
                Check.badState(name, () -> call.on(j));
            }
        }
        Check.same(name + " changes nothing", seen(j), untouched);
    }

    private static final int[] NO_CLASSES = {-1, Integer.MIN_VALUE, 200, INT, ARRAY, Integer.MAX_VALUE};
    private static final int[] NO_TYPES = {
        -1, Integer.MIN_VALUE, 200, 65527, ARRAY + 200, ARRAY + 65527, 256 * ARRAY, 256 * ARRAY + INT, Integer.MAX_VALUE,
    };

    private static void wrongArguments(String name, State newWay) {
        enter(name, newWay);
        for (int c : NO_CLASSES) {
            argument("add(" + c + ", false)", j -> j.add(c, false));
            argument("add(" + c + ", true)", j -> j.add(c, true));
            argument("field(" + c + ", 0)", j -> j.field(c, 0));
            argument("shape(" + c + ", -1, false)", j -> j.shape(c, -1, false));
            argument("shape(" + c + ", -1, true)", j -> j.shape(c, -1, true));
            argument("method(" + c + ", 0, -1, 1, 1)", j -> j.method(c, 0, -1, 1, 1));
            argument("put(187, " + c + ", 0)", j -> j.put(187, c, 0));
            if (c != -1) {
                argument("row(0, 1, 0, " + c + ")", j -> j.row(0, 1, 0, c));
            }
        }
        for (int t : NO_TYPES) {
            argument("field(0, " + t + ")", j -> j.field(0, t));
            argument("takes(" + t + ")", j -> j.takes(t));
            argument("argument(" + t + ")", j -> j.argument(t));
            argument("stands(" + t + ", 0)", j -> j.stands(t, 0) ? 1 : 0);
            argument("stands(0, " + t + ")", j -> j.stands(0, t) ? 1 : 0);
            argument("common(" + t + ", 0)", j -> j.common(t, 0));
            argument("common(0, " + t + ")", j -> j.common(0, t));
            argument("put(18, " + t + ", 0)", j -> j.put(18, t, 0));
            argument("put(192, " + t + ", 0)", j -> j.put(192, t, 0));
            if (t != -1) {
                argument("shape(0, " + t + ", false)", j -> j.shape(0, t, false));
                argument("method(0, 1, " + t + ", 1, 1)", j -> j.method(0, 1, t, 1, 1));
            }
        }
        wrongConstructors();
        wrongNumbers();
        wrongOperands();
    }

    private static void wrongConstructors() {
        argument("add below an interface", j -> j.add(2, false));
        argument("add of an interface below 1", j -> j.add(1, true));
        argument("shape of a constructor with a result", j -> j.shape(1, 1, true));
        argument("shape of an interface's constructor", j -> j.shape(3, -1, true));
        argument("method of a constructor with a result", j -> j.method(1, 2, INT, 1, 1));
        argument("method of an interface's constructor", j -> j.method(2, 2, -1, 1, 1));
    }

    private static void wrongNumbers() {
        for (int n : new int[] {-1, Integer.MIN_VALUE}) {
            argument("method with locals " + n, j -> j.method(0, 0, -1, n, 0));
            argument("method with stack " + n, j -> j.method(0, 0, -1, 0, n));
            argument("to(" + n + ")", j -> j.to(n));
            argument("row(" + n + ", 1, 0, -1)", j -> j.row(n, 1, 0, -1));
            argument("row(0, " + n + ", 0, -1)", j -> j.row(0, n, 0, -1));
            argument("row(0, 1, " + n + ", -1)", j -> j.row(0, 1, n, -1));
        }
        argument("row(0, 1, 0, -2)", j -> j.row(0, 1, 0, -2));
        for (int n : new int[] {201, Integer.MAX_VALUE}) {
            argument("method with locals " + n, j -> j.method(0, 0, -1, n, 0));
            argument("method with stack " + n, j -> j.method(0, 0, -1, 0, n));
        }
        for (int how : new int[] {-1, 3, Integer.MIN_VALUE, Integer.MAX_VALUE}) {
            argument("method with how " + how, j -> j.method(0, how, -1, 1, 1));
        }
        for (int what : new int[] {-1, 4, Integer.MIN_VALUE, Integer.MAX_VALUE}) {
            argument("frame(0, " + what + ")", j -> j.frame(0, what));
            argument("frame(-1, " + what + ")", j -> j.frame(-1, what));
        }
        argument("common of int", j -> j.common(INT, 0));
        argument("common with int", j -> j.common(0, INT));
    }

    private static final String[] WRONG = {
        "-1 0 0", "19 0 0", "26 0 0", "45 0 0", "59 0 0", "78 0 0", "196 0 0", "200 0 0", "0 1 0", "0 0 1", "18 65535 0",
        "20 65534 0", "21 -1 0", "25 0 1", "58 -1 0", "132 -1 0", "153 -1 0", "167 0 1", "168 -1 0", "169 -1 0",
        "170 1 0", "171 0 1", "177 0 -1", "178 -1 0", "178 100 0", "181 100 0", "182 -1 0", "182 100 0", "186 100 0",
        "188 -1 0", "188 8 0", "189 65534 0", "189 16711680 0", "192 65528 0", "193 65535 0", "197 0 1", "197 65536 0",
        "197 65536 2", "197 16711680 256", "198 -1 0", "199 0 1",
    };

    private static void wrongOperands() {
        for (String text : WRONG) {
            String[] n = text.split(" ");
            argument("put of " + text,
                j -> j.put(Integer.parseInt(n[0]), Integer.parseInt(n[1]), Integer.parseInt(n[2])));
        }
    }

    private static void fullStates() {
        enter("all full", UnchangedTest::full);
        stateThrown("add(0, false)", j -> j.add(0, false));
        stateThrown("add(0, true)", j -> j.add(0, true));
        stateThrown("add(199, false)", j -> j.add(199, false));
        stateThrown("field(0, 0)", j -> j.field(0, 0));
        stateThrown("shape(0, -1, true)", j -> j.shape(0, -1, true));
        stateThrown("shape(0, 0, false)", j -> j.shape(0, 0, false));
        stateThrown("takes(0)", j -> j.takes(0));
        stateThrown("argument(0)", j -> j.argument(0));
        stateThrown("to(0)", j -> j.to(0));
        stateThrown("row(0, 1, 0, -1)", j -> j.row(0, 1, 0, -1));
        enter("1000 INSTRUCTIONS", j -> {
            for (int k = 0; k < 999; k++) {
                j.put(0, 0, 0);
            }
            j.put(177, 0, 0);
            j.judge();
        });
        stateThrown("put(0, 0, 0)", j -> j.put(0, 0, 0));
        stateThrown("put(170, 0, 0)", j -> j.put(170, 0, 0));
        stateThrown("to(0)", j -> j.to(0));
        argument("put(19, 0, 0)", j -> j.put(19, 0, 0));
    }

    private static void emptyStates() {
        enter("a new object", j -> { });
        stateThrown("takes(0)", j -> j.takes(0));
        stateThrown("to(0)", j -> j.to(0));
        enter("a METHOD that begins behind a switch", j -> {
            withSwitch(j);
            j.method(0, 0, -1, 0, 0);
        });
        stateThrown("to(0)", j -> j.to(0));
        enter("an INSTRUCTION behind a switch", j -> {
            withSwitch(j);
            j.put(0, 0, 0);
        });
        stateThrown("to(0)", j -> j.to(0));
    }

    // ---- what can be seen

    private static void tell(List<String> all, FlowJudge j, Call call) {
        String answer;
        try {
            answer = String.valueOf(call.on(j));
        } catch (IllegalArgumentException e) {
            answer = "IAE";
        } catch (IllegalStateException e) {
            answer = "ISE";
        }
        all.add(answer);
    }

    /** All that an object tells, then what it answers to more calls of each kind, and what it tells then. */
    private static String seen(FlowJudge j) {
        List<String> all = new ArrayList<>();
        tellFrames(all, j);
        for (int c = 0; c < 201; c++) {
            int type = c;
            tell(all, j, x -> x.stands(type, 4) ? 1 : 0);
            tell(all, j, x -> x.common(type, 5));
        }
        tell(all, j, FlowJudge::judge);
        tellFrames(all, j);
        for (int k = 0; k < 3; k++) {
            tell(all, j, x -> x.to(0));
            tell(all, j, x -> x.takes(INT));
            tell(all, j, x -> x.argument(0));
            tell(all, j, x -> x.row(0, 1, 0, 1));
            tell(all, j, x -> x.add(0, false));
            tell(all, j, x -> x.field(0, INT));
        }
        tell(all, j, FlowJudge::judge);
        tellFrames(all, j);
        tellMembers(all, j);
        tell(all, j, x -> x.shape(0, -1, false));
        tell(all, j, x -> x.takes(0));
        return all.toString();
    }

    private static void tellFrames(List<String> all, FlowJudge j) {
        all.add("frames");
        for (int n = 0; n < 7; n++) {
            for (int k = 0; k < 4; k++) {
                all.add(j.frame(n, k) + ":" + j.context(n, k));
            }
            for (int i = 0; i < 10; i++) {
                all.add(String.valueOf(j.told(n, i)));
            }
        }
        all.add(String.valueOf(j.digest()));
    }

    /** FIELDS and SHAPES as METHODS see them. */
    private static void tellMembers(List<String> all, FlowJudge j) {
        all.add("members");
        for (int k = 0; k < 4; k++) {
            int member = k;
            tell(all, j, x -> x.method(4, 0, -1, 1, 4));
            tell(all, j, x -> x.put(178, member, 0));
            tell(all, j, x -> x.put(167, 2, 0));
            tell(all, j, x -> x.put(167, 2, 0));
            tell(all, j, FlowJudge::judge);
            tellFrames(all, j);
            tell(all, j, x -> x.method(4, 0, -1, 1, 4));
            tell(all, j, x -> x.put(3, 0, 0));
            tell(all, j, x -> x.put(1, 0, 0));
            tell(all, j, x -> x.put(184, member, 0));
            tell(all, j, x -> x.put(167, 5, 0));
            tell(all, j, x -> x.put(0, 0, 0));
            tell(all, j, x -> x.put(167, 5, 0));
            tell(all, j, FlowJudge::judge);
            tellFrames(all, j);
        }
    }
}
