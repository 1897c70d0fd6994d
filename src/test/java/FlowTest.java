/** Promise 11: what is looked at first, ways that come together, handlers, constructors and NEW objects. */
public final class FlowTest {
    private static final int ARRAY = 65536;
    private static final int INT = 65534;

    public static void main(String[] args) {
        lookedAtFirst();
        rowsLookedAtFirst();
        targets();
        meetsOfLocals();
        meetsOfWideLocals();
        meetsOfStacks();
        loops();
        ends();
        handlers();
        handlersSeeEachState();
        handlersThatRefuse();
        newObjects();
        newInLoops();
        constructors();
        constructorsByWays();
        constructorsWithHandlers();
        arraysAndInterfaces();
        refusedLeavesNone();
        Check.end("FlowTest");
    }

    private static void due(String text, int locals, int stack, String frames) {
        Check.same(text, Check.judged(new FlowJudge(), locals, stack, text), frames);
    }

    private static void refused(String text, int locals, int stack) {
        due(text, locals, stack, "refused");
    }

    private static void lookedAtFirst() {
        refused("", 1, 1);
        refused("177; 21 1", 1, 1);
        due("177; 21 0", 1, 1, "0()[0]");
        refused("177; 22 0", 1, 1);
        due("177; 22 0", 2, 1, "0()[0,0]");
        refused("177; 24 1", 2, 1);
        refused("177; 55 1", 2, 1);
        refused("177; 57 1", 2, 1);
        due("177; 57 0", 2, 1, "0()[0,0]");
        refused("177; 25 2147483647", 2, 1);
        refused("177; 22 2147483647", 2, 1);
        refused("177; 58 2", 2, 1);
        refused("177; 132 2 0", 2, 1);
        refused("177; 169 2", 2, 1);
        due("177; 169 1", 2, 1, "0()[0,0]");
        refused("177; 132 0 0", 0, 1);
        refused("177; 55 0", 0, 1);
        for (int op = 153; op <= 168; op++) {
            refused("177; " + op + " 2", 0, 1);
            refused("177; " + op + " 2147483647", 0, 1);
        }
        refused("177; 198 2", 0, 1);
        refused("177; 199 9", 0, 1);
        due("177; 199 1", 0, 1, "0()[]");
        refused("177; 170", 0, 1);
        refused("177; 171", 0, 1);
        refused("177; 170 > 0 2", 0, 1);
        refused("177; 171 > 2147483647", 0, 1);
        due("177; 171 > 1", 0, 1, "0()[]");
    }

    private static void rowsLookedAtFirst() {
        due("177; 177; : 1 2 1 -1", 0, 1, "0()[]");
        due("177; 177; : 0 2 1 -1", 0, 1, "0()[] 1()[|24]");
        refused("177; 177; : 2 3 1 -1", 0, 1);
        refused("177; 177; : 1 3 1 -1", 0, 1);
        refused("177; 177; : 1 2 2 -1", 0, 1);
        refused("177; 177; : 1 1 1 -1", 0, 1);
        refused("177; 177; : 1 0 1 -1", 0, 1);
        refused("177; 177; : 0 0 1 -1", 0, 1);
        refused("177; 177; : 1 2147483647 1 -1", 0, 1);
        refused("177; 177; : 2147483647 2147483647 1 -1", 0, 1);
        due("177; 177; : 1 2 1 0", 0, 1, "0()[]");
        due("177; 177; : 1 2 1 -1", 0, 0, "0()[]");
    }

    /** What makes a TARGET need not be come to. */
    private static void targets() {
        due("0; 0; 177", 1, 0, "0()[0]");
        due("0; 0; 177; 167 1", 1, 0, "0()[0] 1()[0]");
        due("0; 0; 177; 170 > 2", 1, 0, "0()[0] 2()[0]");
        due("0; 0; 177; 168 2; 0", 1, 0, "0()[0] 2()[0]");
        due("0; 0; 177; 0; : 3 4 2 -1", 1, 0, "0()[0] 2()[0]");
        due("167 2; 168 2; 0; 177", 1, 0, "0()[0] 2()[0]");
        due("167 2; 0; 177", 1, 0, "0()[0] 2()[0]");
        due("3; 153 3; 0; 177", 1, 1, "0()[0] 3()[0]");
        due("167 3; 0; 168 0; 177", 1, 1, "0()[0] 3()[0]");
    }

    /** Two ways to INSTRUCTION 6 with two values in local 0. */
    private static String met(FlowJudge j, String one, String other, int store) {
        j.method(0, 0, -1, 2, 2);
        Check.put(j, "3; 153 5; " + one + "; " + store + " 0; 167 7; " + other + "; " + store + " 0; 177");
        int n = j.judge();
        return n < 0 ? "refused" : j.told(n - 1, 0) + " " + j.told(n - 1, 1);
    }

    private static void meetsOfLocals() {
        FlowJudge j = new FlowJudge();
        int a = j.add(0, false);
        int b = j.add(a, false);
        int c = j.add(a, false);
        int i = j.add(0, true);
        int[][] types = {
            {b, b, b}, {b, c, a}, {b, 1, 0}, {b, i, 0}, {i, i, i}, {i, 2, 0}, {0, b, 0}, {a, b, a},
            {ARRAY + b, ARRAY + c, ARRAY + a}, {ARRAY + b, b, 0}, {ARRAY + b, 2 * ARRAY + b, ARRAY},
            {ARRAY + INT, ARRAY + INT, ARRAY + INT}, {ARRAY + INT, ARRAY + 65535, 0},
            {2 * ARRAY + INT, 2 * ARRAY + b, ARRAY}, {2 * ARRAY + INT, 3 * ARRAY + b, ARRAY},
        };
        for (int[] t : types) {
            String due = Check.place(t[2]) + " 0";
            Check.same("meet " + t[0] + " " + t[1], met(j, "18 " + t[0], "18 " + t[1], 58), due);
            Check.same("meet " + t[1] + " " + t[0], met(j, "18 " + t[1], "18 " + t[0], 58), due);
        }
        FlowJudge k = new FlowJudge();
        Check.same("null and a TYPE", met(k, "1", "18 65536", 58), Check.place(ARRAY) + " 0");
        Check.same("a TYPE and null", met(k, "18 1", "1", 58), "24 0");
        Check.same("null and null", met(k, "1", "1", 58), "5 0");
        Check.same("two ints", met(k, "3", "4", 54), "1 0");
        Check.same("two floats", met(k, "11", "12", 56), "2 0");
        Check.same("two NEW ones", met(k, "187 1", "187 1", 58), "0 0");
        Check.same("NEW and null", met(k, "187 1", "1", 58), "0 0");
        Check.same("NEW and its TYPE", met(k, "187 1", "18 1", 58), "0 0");
        due("3; 153 4; 3; 54 0; 177", 1, 1, "0()[0] 4()[0]");
        due("3; 153 4; 1; 58 0; 177", 1, 1, "0()[0] 4()[0]");
        due("3; 54 0; 3; 153 6; 11; 56 0; 177", 1, 1, "0()[0] 6()[0]");
        due("3; 54 0; 3; 153 6; 1; 58 0; 177", 1, 1, "0()[0] 6()[0]");
    }

    private static void meetsOfWideLocals() {
        FlowJudge j = new FlowJudge();
        Check.same("two longs", met(j, "9", "10", 55), "3 7");
        Check.same("two doubles", met(j, "14", "15", 57), "4 7");
        due("9; 55 0; 3; 153 6; 14; 57 0; 177", 2, 2, "0()[0,0] 6()[0,0]");
        due("9; 55 0; 3; 153 6; 3; 54 0; 177", 2, 2, "0()[0,0] 6()[0,0]");
        due("9; 55 0; 3; 153 6; 3; 54 1; 177", 2, 2, "0()[0,0] 6()[0,0]");
        due("9; 55 0; 3; 153 6; 9; 55 1; 177", 3, 2, "0()[0,0,0] 6()[0,0,0]");
        due("9; 55 1; 3; 153 6; 9; 55 0; 177", 3, 2, "0()[0,0,0] 6()[0,0,0]");
        due("3; 54 1; 3; 153 6; 9; 55 0; 177", 3, 2, "0()[0,0,0] 6()[0,0,0]");
        due("3; 54 2; 3; 153 6; 9; 55 0; 177", 3, 2, "0()[0,0,0] 6()[0,0,1]");
        due("9; 55 1; 3; 54 1; 167 5; 177", 3, 2, "0()[0,0,0] 5()[0,1,0]");
        due("9; 55 1; 3; 54 2; 167 5; 177", 3, 2, "0()[0,0,0] 5()[0,0,1]");
        due("9; 55 2; 9; 55 1; 167 5; 177", 4, 2, "0()[0,0,0,0] 5()[0,3,7,0]");
        due("9; 55 0; 9; 55 2; 167 5; 177", 4, 2, "0()[0,0,0,0] 5()[3,7,3,7]");
        due("9; 55 0; 9; 55 1; 167 5; 177", 4, 2, "0()[0,0,0,0] 5()[0,3,7,0]");
        due("9; 55 1; 9; 55 0; 167 5; 177", 4, 2, "0()[0,0,0,0] 5()[3,7,0,0]");
    }

    private static void meetsOfStacks() {
        FlowJudge j = new FlowJudge();
        int a = j.add(0, false);
        j.add(a, false);
        j.add(a, false);
        String ways = "3; 153 4; X; 167 5; Y; 87; 177";
        Check.same("sisters", Check.judged(j, 0, 2, ways.replace("X", "18 5").replace("Y", "18 6")),
            "0()[] 4()[] 5()[|72]");
        Check.same("null", Check.judged(j, 0, 2, ways.replace("X", "1").replace("Y", "18 6")),
            "0()[] 4()[] 5()[|104]");
        Check.same("ints", Check.judged(j, 0, 2, ways.replace("X", "3").replace("Y", "4")), "0()[] 4()[] 5()[|1]");
        Check.same("int and float", Check.judged(j, 0, 2, ways.replace("X", "3").replace("Y", "11")), "refused");
        Check.same("int and null", Check.judged(j, 0, 2, ways.replace("X", "3").replace("Y", "1")), "refused");
        Check.same("NEW twice", Check.judged(j, 0, 2, ways.replace("X", "187 4").replace("Y", "187 4")), "refused");
        Check.same("NEW and null", Check.judged(j, 0, 2, ways.replace("X", "187 4").replace("Y", "1")), "refused");
        Check.same("heights", Check.judged(j, 0, 2, ways.replace("X", "0").replace("Y", "1")), "refused");
        Check.same("long and double",
            Check.judged(j, 0, 2, ways.replace("X", "9").replace("Y", "14").replace("87", "88")), "refused");
        Check.same("longs", Check.judged(j, 0, 2, ways.replace("X", "9").replace("Y", "9").replace("87", "88")),
            "0()[] 4()[] 5()[|3,7]");
        Check.same("long and two ints",
            Check.judged(j, 0, 3, "3; 153 5; 3; 3; 167 6; 9; 88; 177"), "refused");
    }

    private static void loops() {
        due("3; 54 0; 132 0 1; 21 0; 153 2; 177", 1, 1, "0()[0] 2()[1]");
        due("167 0", 0, 0, "0()[]");
        due("3; 153 0; 177", 1, 1, "0()[0]");
        refused("3; 3; 153 0; 177", 0, 9);
        refused("3; 167 0", 0, 9);
        // The second way round makes local 0 unusable, so iload refuses then.
        refused("3; 54 0; 21 0; 153 7; 11; 56 0; 167 2; 177", 1, 1);
        due("3; 54 0; 3; 153 7; 11; 56 0; 167 2; 177", 1, 1, "0()[0] 2()[0] 7()[0]");
        // What is found late goes on to where all has been followed before.
        due("1; 58 0; 3; 153 8; 25 0; 58 1; 167 2; 0; 18 65536; 58 0; 3; 153 2; 177", 2, 1,
            "0()[0,0] 2()[1048584,0] 8()[1048584,0]");
    }

    private static void ends() {
        refused("0", 0, 0);
        refused("3; 153 0", 0, 1);
        refused("3; 54 0", 1, 1);
        due("167 2; 0; 177", 0, 0, "0()[] 2()[]");
        due("177; 0", 0, 0, "0()[]");
        due("1; 191", 0, 1, "0()[]");
        due("3; 170 > 0", 0, 1, "0()[]");
        refused("3; 168 0", 0, 1);
    }

    private static void handlers() {
        FlowJudge j = new FlowJudge();
        int error = j.add(1, false);
        String code = "3; 54 0; 177; 58 1; 177; ";
        Check.same("any", Check.judged(j, 2, 2, code + ": 0 3 3 -1"), "0()[0,0] 3()[0,0|24]");
        Check.same("Throwable", Check.judged(j, 2, 2, code + ": 0 3 3 1"), "0()[0,0] 3()[0,0|24]");
        Check.same("one below", Check.judged(j, 2, 2, code + ": 0 3 3 " + error), "0()[0,0] 3()[0,0|72]");
        Check.same("two ROWS to one handler", Check.judged(j, 2, 2, code + ": 0 3 3 " + error + "; : 2 3 3 1"),
            "0()[0,0] 3()[0,0|24]");
        Check.same("a handler that another one falls into", Check.judged(j, 2, 2, code + ": 0 1 3 " + error + "; : 2 3 4 1"),
            "refused");
        Check.same("two handlers of their own",
            Check.judged(j, 2, 2, code + "177; : 0 1 3 " + error + "; : 2 3 5 1"),
            "0()[0,0] 3()[0,0|72] 5()[1,0|24]");
        Check.same("over itself", Check.judged(j, 1, 1, "177; 58 0; 177; : 0 3 1 -1"), "0()[0] 1()[0|24]");
        Check.same("over itself, with int", Check.judged(j, 1, 1, "3; 54 0; 177; 87; 177; : 2 5 3 -1"), "0()[0] 3()[1|24]");
        Check.same("only what is come to", Check.judged(j, 1, 1, "177; 0; 177; : 1 2 2 -1"), "0()[0]");
    }

    /** With what is there ahead of each INSTRUCTION that the ROW is over. */
    private static void handlersSeeEachState() {
        String code = "3; 54 0; 11; 56 1; 0; 177; 87; 177; ";
        due(code + ": 0 1 6 -1", 2, 1, "0()[0,0] 6()[0,0|24]");
        due(code + ": 1 2 6 -1", 2, 1, "0()[0,0] 6()[0,0|24]");
        due(code + ": 2 3 6 -1", 2, 1, "0()[0,0] 6()[1,0|24]");
        due(code + ": 2 4 6 -1", 2, 1, "0()[0,0] 6()[1,0|24]");
        due(code + ": 2 5 6 -1", 2, 1, "0()[0,0] 6()[1,0|24]");
        due(code + ": 4 5 6 -1", 2, 1, "0()[0,0] 6()[1,2|24]");
        due(code + ": 4 6 6 -1", 2, 1, "0()[0,0] 6()[1,2|24]");
        due("3; 54 0; 11; 56 0; 14; 57 0; 177; 87; 177; : 2 4 7 -1", 2, 2, "0()[0,0] 7()[1,0|24]");
        due("3; 54 0; 11; 56 0; 14; 57 0; 177; 87; 177; : 2 5 7 -1", 2, 2, "0()[0,0] 7()[0,0|24]");
        due("3; 54 0; 11; 56 0; 14; 57 0; 177; 87; 177; : 4 6 7 -1", 2, 2, "0()[0,0] 7()[2,0|24]");
        due("3; 54 0; 11; 56 0; 14; 57 0; 177; 87; 177; : 6 7 7 -1", 2, 2, "0()[0,0] 7()[4,7|24]");
        // What the last INSTRUCTION of a ROW leaves is not what the handler sees.
        due("1; 58 0; 3; 54 0; 177; 87; 177; : 2 4 5 -1", 1, 1, "0()[0] 5()[5|24]");
        // The stack of the place where it is thrown is gone.
        due("3; 3; 3; 88; 87; 177; 87; 177; : 0 6 6 -1", 0, 3, "0()[] 6()[|24]");
    }

    private static void handlersThatRefuse() {
        FlowJudge j = new FlowJudge();
        int a = j.add(0, false);
        int i = j.add(0, true);
        for (int c : new int[] {0, 2, 3, a, i}) {
            Check.same("no Throwable " + c, Check.judged(j, 1, 1, "177; 87; 177; : 0 1 1 " + c), "refused");
            Check.same("not come to " + c, Check.judged(j, 1, 1, "177; 87; 177; : 1 2 1 " + c), "0()[0]");
        }
        refused("177; 177; : 0 1 1 -1", 1, 0);
        due("177; 177; : 1 2 1 -1", 1, 0, "0()[0]");
        refused("177; 0; : 0 1 1 -1", 1, 1);
        refused("3; 153 3; 177; 177; : 0 3 3 -1", 1, 1);
    }

    private static void newObjects() {
        FlowJudge j = new FlowJudge();
        int a = j.add(0, false);
        int b = j.add(a, false);
        int ofA = j.shape(a, -1, true);
        int ofB = j.shape(b, -1, true);
        j.takes(INT);
        String made = "187 4; 89; 58 0; 89; 183 0; 167 6; 167 6";
        Check.same("all places become references", Check.judged(j, 2, 3, made), "0()[0,0] 6()[72,0|72]");
        Check.same("a NEW one is told", Check.judged(j, 1, 2, "187 4; 58 0; 167 3; 177"), "0()[0] 3()[9]");
        Check.same("by its INSTRUCTION", Check.judged(j, 1, 2, "0; 187 4; 58 0; 167 4; 177"), "0()[0] 4()[25]");
        Check.same("another CLASS's constructor", Check.judged(j, 1, 2, "187 5; 183 " + ofA + "; 177"), "refused");
        Check.same("a subclass's constructor", Check.judged(j, 1, 3, "187 4; 3; 183 " + ofB + "; 177"), "refused");
        Check.same("with arguments", Check.judged(j, 1, 3, "187 5; 3; 183 " + ofB + "; 177"), "0()[0]");
        Check.same("without them", Check.judged(j, 1, 3, "187 5; 183 " + ofB + "; 177"), "refused");
        Check.same("made already", Check.judged(j, 1, 3, "187 4; 89; 183 0; 183 0; 177"), "refused");
        Check.same("of null", Check.judged(j, 1, 3, "1; 183 0; 177"), "refused");
        Check.same("of int", Check.judged(j, 1, 3, "3; 183 0; 177"), "refused");
        Check.same("of a reference", Check.judged(j, 1, 3, "18 4; 183 0; 177"), "refused");
        Check.same("one of two is made", Check.judged(j, 2, 3, "187 4; 58 0; 187 4; 58 1; 25 0; 183 0; 167 7; 177"),
            "0()[0,0] 7()[72,41]");
        Check.same("an interface may be NEW", Check.judged(j, 1, 1, "187 2; 58 0; 177"), "0()[0]");
    }

    private static void newInLoops() {
        FlowJudge j = new FlowJudge();
        j.shape(0, -1, true);
        Check.same("in locals it can be used no more", Check.judged(j, 1, 2, "187 0; 58 0; 3; 153 0; 177"), "0()[0]");
        Check.same("on the stack it refuses", Check.judged(j, 1, 3, "3; 153 2; 187 0; 3; 153 2; 177"), "refused");
        String twice = "168 6; 25 1; X; 168 6; 177; 0; 58 0; 187 0; 58 1; 169 0; 87; 177; ";
        Check.same("the older one is used no more", Check.judged(j, 3, 2, twice.replace("X", "58 2")),
            "0()[0,0,0] 1()[26,121,0] 4()[74,121,0] 6(1)[0,0,0|26] 6(4)[26,121,121|74]");
        Check.same("nor by a handler", Check.judged(j, 3, 2, twice.replace("X", "58 2") + ": 7 9 10 -1"),
            "0()[0,0,0] 1()[26,121,0] 4()[74,121,0] 6(1)[0,0,0|26] 6(4)[26,121,121|74] "
                + "10(1)[26,0,0|24] 10(4)[74,0,0|24]");
        Check.same("the older one is on the stack", Check.judged(j, 3, 2, twice.replace("X", "0")), "refused");
        Check.same("the older one was on the stack", Check.judged(j, 3, 2, twice.replace("X", "87")),
            "0()[0,0,0] 1()[26,121,0] 4()[74,121,0] 6(1)[0,0,0|26] 6(4)[26,121,0|74]");
        Check.same("another one may be on the stack",
            Check.judged(j, 1, 3, "187 0; 187 0; 183 0; 183 0; 177"), "0()[0]");
        Check.same("the same one is put where the older one was", Check.judged(j, 3, 2,
            "168 3; 168 3; 177; 58 0; 187 0; 58 1; 25 1; 58 2; 169 0"),
            "0()[0,0,0] 1()[26,73,73] 2()[42,73,73] 3(1)[0,0,0|26] 3(2)[26,73,73|42]");
        Check.same("made by another subroutine", Check.judged(j, 3, 2,
            "168 4; 168 9; 177; 177; 58 0; 187 0; 58 1; 169 0; 177; 58 0; 25 1; 183 0; 169 0"),
            "0()[0,0,0] 1()[26,89,0] 2()[42,8,0] 4(1)[0,0,0|26] 9(2)[26,89,0|42]");
    }

    private static String constructed(FlowJudge j, int c, String text) {
        j.method(c, 2, -1, 2, 3);
        Check.put(j, text);
        return Check.frames(j, j.judge(), 2);
    }

    private static void constructors() {
        FlowJudge j = new FlowJudge();
        int a = j.add(0, false);
        int b = j.add(a, false);
        int c = j.add(b, false);
        int ofObject = j.shape(0, -1, true);
        int ofA = j.shape(a, -1, true);
        int ofB = j.shape(b, -1, true);
        int ofC = j.shape(c, -1, true);
        String call = "25 0; 183 X; 167 3; 177";
        String due = "0()[6,0] 3()[88,0]!";
        Check.same("its superclass's", constructed(j, b, call.replace("X", "" + ofA)), due);
        Check.same("its own", constructed(j, b, call.replace("X", "" + ofB)), due);
        Check.same("one further above", constructed(j, b, call.replace("X", "" + ofObject)), "refused");
        Check.same("one below", constructed(j, b, call.replace("X", "" + ofC)), "refused");
        Check.same("Object's of one below Object", constructed(j, a, call.replace("X", "" + ofObject)),
            "0()[6,0] 3()[72,0]!");
        Check.same("not at all", constructed(j, b, "177"), "refused");
        Check.same("not at all, but thrown", constructed(j, b, "1; 191"), "0()[6,0]");
        Check.same("not at all, but for ever", constructed(j, b, "167 0"), "0()[6,0]");
        Check.same("twice", constructed(j, b, "25 0; 183 1; 25 0; 183 1; 177"), "refused");
        Check.same("all places", constructed(j, b, "25 0; 58 1; 25 0; 89; 183 1; 167 6; 167 6"),
            "0()[6,0] 6()[88,88|88]!");
        Check.same("THIS is lost", constructed(j, b, "1; 58 0; 177"), "refused");
        Check.same("another object of its CLASS is not THIS", constructed(j, b, "187 5; 183 " + ofB + "; 177"), "refused");
        Check.same("Object's", constructed(j, 0, "167 1; 177"), "0()[8,0]! 1()[8,0]!");
        Check.same("Object's calls none", constructed(j, 0, "25 0; 183 0; 177"), "refused");
        Check.same("THIS is no argument", constructed(j, b, "25 0; 192 0; 177"), "refused");
    }

    private static void constructorsByWays() {
        FlowJudge j = new FlowJudge();
        int a = j.add(0, false);
        j.shape(0, -1, true);
        Check.same("by one way only", constructed(j, a, "3; 153 4; 25 0; 183 0; 177"), "refused");
        Check.same("by one way only, and thrown", constructed(j, a, "3; 153 4; 25 0; 183 0; 1; 191"),
            "0()[6,0] 4()[0,0]");
        Check.same("by the first way only", constructed(j, a, "3; 153 5; 25 0; 183 0; 167 6; 0; 177"), "refused");
        Check.same("by the first way only, and thrown",
            constructed(j, a, "3; 153 5; 25 0; 183 0; 167 6; 0; 1; 191"), "0()[6,0] 5()[6,0] 6()[0,0]");
        Check.same("by both ways", constructed(j, a, "3; 153 5; 25 0; 183 0; 177; 25 0; 183 0; 177"),
            "0()[6,0] 5()[6,0]");
        Check.same("by both ways to one place",
            constructed(j, a, "3; 153 5; 25 0; 183 0; 167 7; 25 0; 183 0; 177"), "0()[6,0] 5()[6,0] 7()[72,0]!");
        Check.same("in a subroutine", constructed(j, a, "168 2; 177; 58 1; 25 0; 183 0; 169 1"),
            "0()[6,0] 1()[72,26]! 2(1)[6,0|26]");
        Check.same("THIS and null meet", constructed(j, a, "3; 153 4; 1; 58 0; 1; 191"), "0()[6,0] 4()[0,0]");
        j.method(a, 1, -1, 1, 1);
        j.put(177, 0, 0);
        Check.same("no constructor", Check.frames(j, j.judge(), 1), "0()[72]");
    }

    private static void constructorsWithHandlers() {
        FlowJudge j = new FlowJudge();
        int a = j.add(0, false);
        j.shape(0, -1, true);
        String code = "25 0; 183 0; 177; 191; ";
        Check.same("ahead of the call", constructed(j, a, code + ": 0 2 3 -1"), "0()[6,0] 3()[6,0|24]");
        Check.same("behind the call", constructed(j, a, code + ": 2 3 3 -1"), "0()[6,0] 3()[72,0|24]!");
        Check.same("both", constructed(j, a, code + ": 0 3 3 -1"), "0()[6,0] 3()[0,0|24]");
        Check.same("made in the handler", constructed(j, a, "0; 25 0; 183 0; 177; 87; 25 0; 183 0; 177; : 0 1 4 -1"),
            "0()[6,0] 4()[6,0|24]");
        Check.same("a handler that returns", constructed(j, a, "25 0; 183 0; 177; 177; : 0 1 3 -1"), "refused");
        Check.same("a handler that returns, made", constructed(j, a, "25 0; 183 0; 177; 177; : 2 3 3 -1"),
            "0()[6,0] 3()[72,0|24]!");
    }

    /** An array does not stand for an interface, but Object does; what is there in the end is judged. */
    private static void arraysAndInterfaces() {
        FlowJudge j = new FlowJudge();
        int i = j.add(0, true);
        j.field(0, i);
        j.field(0, ARRAY + i);
        Check.same("an array", Check.judged(j, 1, 2, "18 65536; 58 0; 25 0; 179 0; 177"), "refused");
        Check.same("an array and Object", Check.judged(j, 1, 2,
            "18 65536; 58 0; 3; 153 6; 18 1; 58 0; 25 0; 179 0; 177"), "0()[0] 6()[8]");
        Check.same("an array the first time, Object the second", Check.judged(j, 1, 2,
            "18 65536; 58 0; 25 0; 179 0; 18 1; 58 0; 3; 153 2; 177"), "0()[0] 2()[8]");
        Check.same("an array each time", Check.judged(j, 1, 2,
            "18 65536; 58 0; 25 0; 179 0; 18 65536; 58 0; 3; 153 2; 177"), "refused");
        Check.same("an array of arrays the first time", Check.judged(j, 1, 2,
            "18 131072; 58 0; 25 0; 179 1; 18 65537; 58 0; 3; 153 2; 177"), "0()[0] 2()[1048584]");
        Check.same("an array of arrays each time", Check.judged(j, 1, 2,
            "18 131072; 58 0; 25 0; 179 1; 18 131073; 58 0; 3; 153 2; 177"), "refused");
    }

    private static void refusedLeavesNone() {
        FlowJudge j = new FlowJudge();
        Check.same("kept", Check.judged(j, 1, 1, "167 1; 177"), "0()[0] 1()[0]");
        j.put(170, 0, 0);
        Check.same("refused first", j.judge(), -1);
        Check.same("no FRAME", j.frame(0, 0), -1);
        Check.same("no place", j.told(0, 0), -1);
        Check.same("no digest", j.digest(), 7);
        j.to(0);
        Check.same("kept again", j.judge(), 2);
        Check.same("refused on the way", Check.judged(j, 1, 1, "167 1; 0"), "refused");
        Check.same("no FRAME then", j.frame(0, 2), -1);
        Check.same("no digest then", j.digest(), 7);
    }
}
