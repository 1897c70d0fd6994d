/** Promises 6 to 10: method, argument, put, to and row. */
public final class MethodTest {
    private static final int INT = 65534;
    private static final int ARRAY = 65536;

    public static void main(String[] args) {
        method();
        methodThrows();
        methodBeginsAnew();
        argument();
        putOpcodes();
        putOperands();
        to();
        toMany();
        row();
        rowFull();
        Check.end("MethodTest");
    }

    private static String empty(FlowJudge j, int locals) {
        j.put(177, 0, 0);
        return Check.frames(j, j.judge(), locals);
    }

    private static void method() {
        FlowJudge j = new FlowJudge();
        int a = j.add(0, false);
        Check.same("static", j.method(a, 0, -1, 2, 0), 0);
        Check.same("static: no this", empty(j, 2), "0()[0,0]");
        Check.same("not static", j.method(a, 1, -1, 2, 0), 0);
        Check.same("not static: this", empty(j, 2), "0()[" + Check.place(a) + ",0]");
        Check.same("a constructor", j.method(0, 2, -1, 2, 0), 0);
        Check.same("Object's constructor has this, made", empty(j, 2), "0()[8,0]!");
        Check.same("a constructor", j.method(a, 2, -1, 2, 0), 0);
        Check.same("a constructor's THIS was not made", empty(j, 2), "refused");
        j.method(2, 1, -1, 1, 0);
        Check.same("a METHOD of an interface", empty(j, 1), "0()[40]");
        Check.same("most places", j.method(0, 0, INT, 200, 200), 0);
        Check.same("least places", j.method(0, 0, 255 * ARRAY + a, 0, 0), 0);
    }

    private static void methodThrows() {
        FlowJudge j = new FlowJudge();
        int i = j.add(0, true);
        j.method(1, 1, INT, 1, 1);
        j.put(3, 0, 0);
        Check.badArgument("no CLASS", () -> j.method(5, 0, -1, 0, 0));
        Check.badArgument("no CLASS -1", () -> j.method(-1, 0, -1, 0, 0));
        Check.badArgument("how 3", () -> j.method(0, 3, -1, 0, 0));
        Check.badArgument("how -1", () -> j.method(0, -1, -1, 0, 0));
        Check.badArgument("result -2", () -> j.method(0, 0, -2, 0, 0));
        Check.badArgument("result 5", () -> j.method(0, 0, 5, 0, 0));
        Check.badArgument("a constructor's result", () -> j.method(0, 2, INT, 1, 1));
        Check.badArgument("an interface's constructor", () -> j.method(i, 2, -1, 1, 1));
        Check.badArgument("Serializable's constructor", () -> j.method(3, 2, -1, 1, 1));
        Check.badArgument("locals -1", () -> j.method(0, 0, -1, -1, 0));
        Check.badArgument("locals 201", () -> j.method(0, 0, -1, 201, 0));
        Check.badArgument("stack -1", () -> j.method(0, 0, -1, 0, -1));
        Check.badArgument("stack 201", () -> j.method(0, 0, -1, 0, 201));
        Check.badArgument("stack MIN", () -> j.method(0, 0, -1, 0, Integer.MIN_VALUE));
        Check.same("the METHOD goes on as it was", j.put(172, 0, 0), 1);
        Check.same("and has what it had", Check.frames(j, j.judge(), 1), "0()[24]");
    }

    private static void methodBeginsAnew() {
        FlowJudge j = new FlowJudge();
        j.method(0, 0, -1, 3, 3);
        j.argument(INT);
        Check.put(j, "3; 170 > 2; 177; : 0 3 2 -1");
        Check.same("its handler takes Throwable", j.judge(), -1);
        j.method(0, 0, -1, 3, 3);
        Check.same("arguments are counted anew", j.argument(0), 1);
        Check.same("INSTRUCTIONS are counted anew", j.put(3, 0, 0), 0);
        j.put(171, 0, 0);
        Check.same("TARGETS are counted anew", j.to(2), 1);
        j.put(177, 0, 0);
        Check.same("ROWS are gone", Check.frames(j, j.judge(), 3), "0()[8,0,0] 2()[8,0,0]");
        Check.same("ROWS are counted anew", j.row(0, 1, 2, -1), 1);
    }

    private static void argument() {
        FlowJudge j = new FlowJudge();
        j.method(1, 1, -1, 9, 0);
        Check.same("int", j.argument(INT), 1);
        Check.same("long", j.argument(65535), 2);
        Check.same("boolean", j.argument(65528), 3);
        Check.same("double", j.argument(65531), 4);
        Check.same("an array", j.argument(ARRAY + 65528), 5);
        Check.badArgument("-1", () -> j.argument(-1));
        Check.badArgument("4", () -> j.argument(4));
        Check.badArgument("256 dimensions", () -> j.argument(256 * ARRAY));
        Check.same("float", j.argument(65530), 6);
        Check.same("all in the locals", empty(j, 9), "0()[24,1,3,7,1,4,7," + Check.place(ARRAY + 65528) + ",2]");
        j.argument(65529);
        Check.same("one more than there are places", j.judge(), -1);
        j.method(0, 0, -1, 2, 0);
        j.argument(65535);
        Check.same("just enough places", empty(j, 2), "0()[3,7]");
        j.method(0, 1, -1, 2, 0);
        j.argument(65535);
        Check.same("this needs a place, too", empty(j, 2), "refused");
        j.method(0, 1, -1, 0, 0);
        Check.same("also alone", empty(j, 0), "refused");
        j.method(0, 0, -1, 200, 0);
        for (int k = 1; k <= 20; k++) {
            Check.same("one more", j.argument(65528 + k % 8), k);
        }
        Check.badState("a 21st", () -> j.argument(INT));
        Check.badArgument("no TYPE, also if there are 20", () -> j.argument(-1));
        for (int k : new int[] {65528, 65529, 65532, 65533, 65534}) {
            j.method(0, 0, -1, 1, 0);
            j.argument(k);
            Check.same("int-like", empty(j, 1), "0()[1]");
        }
    }

    private static boolean isOpcode(int op) {
        return op >= 0 && op <= 199 && op != 19 && op != 196 && !(op >= 26 && op <= 45) && !(op >= 59 && op <= 78);
    }

    private static void putOpcodes() {
        FlowJudge j = new FlowJudge();
        j.field(0, 0);
        j.shape(0, -1, false);
        int next = 0;
        for (int op = -2; op <= 260; op++) {
            int code = op;
            int a = op == 18 ? INT : op == 20 ? 65535 : op == 197 ? ARRAY : 0;
            int b = op == 197 ? 1 : 0;
            if (isOpcode(op)) {
                Check.same("put of " + op, j.put(op, a, b), next++);
                if (op != 132) {
                    Check.badArgument("b of " + op, () -> j.put(code, a, 2));
                    Check.badArgument("b -1 of " + op, () -> j.put(code, a, -1));
                }
                if (op != 16 && op != 17) {
                    Check.badArgument("a -1 of " + op, () -> j.put(code, -1, b));
                    Check.badArgument("a MIN of " + op, () -> j.put(code, Integer.MIN_VALUE, b));
                }
            } else {
                Check.badArgument("no opcode " + op, () -> j.put(code, 0, 0));
            }
        }
        for (int op : new int[] {Integer.MIN_VALUE, Integer.MAX_VALUE, 65536 + 3, 256 + 177}) {
            Check.badArgument("no opcode " + op, () -> j.put(op, 0, 0));
        }
        Check.same("what throws puts nothing", j.put(0, 0, 0), next);
    }

    private static final String[] GOOD = {
        "16 -1000000 0", "17 1000000 0", "18 0 0", "18 65528 0", "18 65530 0", "18 65534 0", "18 131071 0", "20 65535 0",
        "20 65531 0", "21 2147483647 0", "22 199 0", "58 200 0", "132 0 -1", "132 3 2147483647", "132 9 -2147483648",
        "153 5000 0", "168 2147483647 0", "169 7 0", "170 0 0", "178 0 0", "181 0 0", "182 0 0", "186 0 0", "187 2 0",
        "187 4 0", "188 7 0", "189 2 0", "189 16646148 0", "192 16711684 0", "193 65536 0", "193 0 0", "197 65536 1",
        "197 16711684 255", "197 16711684 1", "197 131070 1", "198 3 0", "199 999 0",
    };

    private static final String[] BAD = {
        "0 1 0", "15 1 0", "18 65535 0", "18 65531 0", "18 5 0", "18 16777216 0", "18 -1 0", "20 0 0", "20 65534 0",
        "20 131071 0", "46 1 0", "87 1 0", "96 1 0", "132 -1 0", "148 1 0", "153 -1 0", "153 0 1", "170 1 0",
        "171 0 1", "177 1 0", "178 1 0", "179 -1 0", "182 1 0", "184 -1 0", "187 5 0", "187 -1 0", "187 65536 0",
        "187 65534 0", "188 8 0", "188 -1 0", "188 65534 0", "189 65534 0", "189 5 0", "189 16711684 0", "189 -1 0",
        "190 1 0", "192 65534 0", "192 5 0", "193 65535 0", "193 -1 0", "194 1 0", "197 0 1", "197 65536 0",
        "197 65536 2", "197 65536 -1", "197 131070 2", "197 16777216 1", "197 65541 1", "198 -1 0", "21 -1 0",
        "169 -1 0", "185 0 1",
    };

    private static void putOperands() {
        FlowJudge j = new FlowJudge();
        j.add(0, false);
        j.field(0, 0);
        j.shape(0, -1, false);
        for (String text : GOOD) {
            String[] n = text.split(" ");
            j.put(Integer.parseInt(n[0]), Integer.parseInt(n[1]), Integer.parseInt(n[2]));
        }
        for (String text : BAD) {
            String[] n = text.split(" ");
            Check.badArgument("put of " + text,
                () -> j.put(Integer.parseInt(n[0]), Integer.parseInt(n[1]), Integer.parseInt(n[2])));
        }
        Check.same("what throws puts nothing", j.put(0, 0, 0), GOOD.length);
    }

    private static void to() {
        FlowJudge j = new FlowJudge();
        Check.badState("no INSTRUCTION", () -> j.to(0));
        Check.badArgument("below 0, and no INSTRUCTION", () -> j.to(-1));
        j.put(170, 0, 0);
        Check.badArgument("below 0", () -> j.to(-1));
        Check.same("the first TARGET", j.to(0), 1);
        Check.same("the same TARGET", j.to(0), 2);
        Check.same("one far away", j.to(Integer.MAX_VALUE), 3);
        j.put(0, 0, 0);
        Check.badState("no switch", () -> j.to(0));
        j.put(171, 0, 0);
        for (int k = 1; k <= 50; k++) {
            Check.same("one more TARGET", j.to(k % 3), k);
        }
        Check.badState("the 51st", () -> j.to(0));
        Check.badArgument("below 0, also if it has 50", () -> j.to(-5));
        Check.same("another switch", j.put(170, 0, 0), 3);
        Check.same("has its own", j.to(1), 1);
        Check.same("a switch goes to all of its TARGETS and no further",
            Check.judged(new FlowJudge(), 1, 1, "3; 170 > 4 3 4; 1; 177; 167 3"), "0()[0] 3()[0] 4()[0]");
        Check.same("each switch has its own TARGETS",
            Check.judged(new FlowJudge(), 1, 1, "3; 170 > 2; 3; 54 0; 3; 171 > 6 0; 177"),
            "0()[0] 2()[0] 6()[1]");
        Check.same("each switch has its own TARGETS",
            Check.judged(new FlowJudge(), 1, 1, "3; 170 > 2; 3; 54 0; 3; 171 > 6 7; 177; 177"),
            "0()[0] 2()[0] 6()[1] 7()[1]");
    }

    private static void toMany() {
        FlowJudge j = new FlowJudge();
        j.method(0, 0, -1, 1, 1);
        for (int s = 0; s < 4; s++) {
            j.put(3, 0, 0);
            j.put(170, 0, 0);
            for (int k = 1; k <= 50; k++) {
                Check.same("one more TARGET of switch " + s, j.to(k < 50 ? 2 * s + 2 : 8 + s), k);
            }
        }
        Check.put(j, "177; 177; 177; 177");
        Check.same("four switches of 50 TARGETS", Check.frames(j, j.judge(), 1),
            "0()[0] 2()[0] 4()[0] 6()[0] 8()[0] 9()[0] 10()[0] 11()[0]");
    }

    private static void row() {
        FlowJudge j = new FlowJudge();
        j.method(0, 0, -1, 1, 1);
        Check.same("the first ROW", j.row(0, 1, 2, -1), 1);
        Check.same("one with numbers that are none", j.row(Integer.MAX_VALUE, 0, 7, 3), 2);
        Check.badArgument("from below 0", () -> j.row(-1, 1, 2, -1));
        Check.badArgument("up to below 0", () -> j.row(0, -1, 2, -1));
        Check.badArgument("handler below 0", () -> j.row(0, 1, -2, -1));
        Check.badArgument("type -2", () -> j.row(0, 1, 2, -2));
        Check.badArgument("type no CLASS", () -> j.row(0, 1, 2, 4));
        Check.badArgument("type an array", () -> j.row(0, 1, 2, ARRAY));
        Check.badArgument("type a primitive", () -> j.row(0, 1, 2, INT));
        Check.same("the next one", j.row(0, 1, 2, 1), 3);
    }

    private static void rowFull() {
        FlowJudge j = new FlowJudge();
        for (int k = 1; k <= 50; k++) {
            Check.same("one more ROW", j.row(0, 1, 0, -1), k);
        }
        Check.badState("the 51st", () -> j.row(0, 1, 0, -1));
        Check.badArgument("below 0, also if there are 50", () -> j.row(0, 1, -1, -1));
    }
}
