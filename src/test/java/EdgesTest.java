import java.math.BigInteger;

/**
 * Terms 1, 2 and 4 and all promises but judge, sentence by sentence: what is just inside a boundary is
 * taken, what is just outside of it is not. (JudgedEdgesTest has those of 3 JUDGED.)
 */
public final class EdgesTest {
    private static final int ARRAY = 65536;
    private static final int INT = 65534;
    private static final int LONG = 65535;
    private static final int MAX = Integer.MAX_VALUE;
    private static final int MIN = Integer.MIN_VALUE;

    public static void main(String[] args) {
        for (int n : new int[] {4, 5, 100, 199, 200}) {
            classes(n);
            types(n);
        }
        classesAtMost200();
        interfacesAreOf0();
        arraysStand();
        opcodes();
        operandsThatAreNone();
        numbers();
        constantsByPlaces();
        localsAndJumps();
        membersByNumber();
        arraysByDimensions();
        hundredFields();
        hundredShapes();
        twentyArguments();
        placesUpTo200();
        thousandInstructions();
        fiftyTargets();
        latestIsASwitch();
        fiftyRows();
        constructorsOfNothing();
        beginsAnew();
        framesByNumber();
        toldByKind();
        toldInOrder();
        digestWrapsAround();
        Check.end("EdgesTest");
    }

    private static FlowJudge withClasses(int n) {
        FlowJudge j = new FlowJudge();
        for (int c = 4; c < n; c++) {
            Check.same("the next CLASS", j.add(0, false), c);
        }
        return j;
    }

    // ---- 1 TYPES

    /** "the number of a CLASS": 0 up to the latest one. */
    private static void classes(int n) {
        FlowJudge j = withClasses(n);
        int last = n == 4 ? 1 : n - 1;
        Check.same("field(" + last + ", 0)", j.field(last, 0), 0);
        Check.same("shape(" + last + ", -1, true)", j.shape(last, -1, true), 0);
        Check.same("method(" + last + ", 2, -1, 1, 0)", j.method(last, 2, -1, 1, 0), 0);
        Check.same("put(187, " + last + ", 0)", j.put(187, last, 0), 0);
        Check.same("row(0, 1, 0, " + last + ")", j.row(0, 1, 0, last), 1);
        Check.same("field(" + (n - 1) + ", 0)", j.field(n - 1, 0), 1);
        for (int c : new int[] {n, -1}) {
            Check.badArgument("add(" + c + ", false) of " + n, () -> j.add(c, false));
            Check.badArgument("field(" + c + ", 0) of " + n, () -> j.field(c, 0));
            Check.badArgument("shape(" + c + ", -1, false) of " + n, () -> j.shape(c, -1, false));
            Check.badArgument("method(" + c + ", 0, -1, 0, 0) of " + n, () -> j.method(c, 0, -1, 0, 0));
            Check.badArgument("put(187, " + c + ", 0) of " + n, () -> j.put(187, c, 0));
        }
        Check.badArgument("row(0, 1, 0, " + n + ")", () -> j.row(0, 1, 0, n));
        Check.same("row(0, 1, 0, -1)", j.row(0, 1, 0, -1), 2);
        Check.badArgument("row(0, 1, 0, -2)", () -> j.row(0, 1, 0, -2));
        if (n < 200) {
            Check.same("add(" + last + ", false)", j.add(last, false), n);
        }
    }

    /** "A TYPE: the number of a CLASS; 65528 + k ..; of an array 65536 times its dimensions (1 to 255) ..". */
    private static void types(int n) {
        FlowJudge j = withClasses(n);
        int[] inside = {
            0, n - 1, ARRAY, ARRAY + n - 1, 255 * ARRAY, 255 * ARRAY + n - 1, ARRAY + 65528, ARRAY + LONG,
            255 * ARRAY + 65528, 255 * ARRAY + LONG,
        };
        int[] outside = {
            -1, n, 65527, ARRAY + n, ARRAY + 65527, 255 * ARRAY + n, 255 * ARRAY + 65527, 256 * ARRAY,
            256 * ARRAY + n - 1, 256 * ARRAY + 65528, 256 * ARRAY + LONG, MAX, MIN, -ARRAY, -ARRAY + LONG,
        };
        j.shape(0, -1, false);
        for (int k = 0; k < inside.length; k++) {
            int t = inside[k];
            Check.same("field(0, " + t + ")", j.field(0, t), k);
            Check.same("takes(" + t + ")", j.takes(t), k + 1);
            Check.same("argument(" + t + ")", j.argument(t), k + 1);
            Check.yes("stands(" + t + ", " + t + ")", j.stands(t, t));
            Check.same("common(" + t + ", " + t + ")", j.common(t, t), t);
        }
        for (int t : outside) {
            Check.badArgument("field(0, " + t + ") of " + n, () -> j.field(0, t));
            Check.badArgument("takes(" + t + ") of " + n, () -> j.takes(t));
            Check.badArgument("argument(" + t + ") of " + n, () -> j.argument(t));
            Check.badArgument("stands(" + t + ", 0) of " + n, () -> j.stands(t, 0));
            Check.badArgument("stands(0, " + t + ") of " + n, () -> j.stands(0, t));
            Check.badArgument("common(" + t + ", 0) of " + n, () -> j.common(t, 0));
            Check.badArgument("common(0, " + t + ") of " + n, () -> j.common(0, t));
            if (t != -1) {
                Check.badArgument("shape(0, " + t + ", false) of " + n, () -> j.shape(0, t, false));
                Check.badArgument("method(0, 0, " + t + ", 0, 0) of " + n, () -> j.method(0, 0, t, 0, 0));
            }
        }
        for (int k = 65528; k <= LONG; k++) {
            int t = k;
            Check.yes("stands of a primitive one", j.stands(t, t));
            Check.badArgument("common of a primitive one", () -> j.common(t, t));
            Check.badArgument("common of a primitive one and 0", () -> j.common(t, 0));
            Check.badArgument("common of 0 and a primitive one", () -> j.common(0, t));
        }
        int results = 1;
        for (int t : inside) {
            Check.same("shape(0, " + t + ", false)", j.shape(0, t, false), results++);
            Check.same("method(0, 0, " + t + ", 0, 0)", j.method(0, 0, t, 0, 0), 0);
        }
        Check.same("shape(0, -1, false)", j.shape(0, -1, false), results);
        Check.same("method(0, 0, -1, 0, 0)", j.method(0, 0, -1, 0, 0), 0);
    }

    /** "each that a call makes is the next one, at most 200"; "IllegalStateException: there are 200". */
    private static void classesAtMost200() {
        FlowJudge j = withClasses(199);
        Check.badArgument("199 is not there yet", () -> j.stands(199, 199));
        Check.same("the 200th CLASS", j.add(198, false), 199);
        Check.badState("the 201st", () -> j.add(0, false));
        Check.badState("the 201st, below the last one", () -> j.add(199, false));
        Check.badState("the 201st, an interface", () -> j.add(0, true));
        Check.badArgument("still none is 200", () -> j.stands(200, 200));
        Check.yes("199 is there", j.stands(199, 198));
        FlowJudge k = withClasses(199);
        Check.same("the 200th, an interface", k.add(0, true), 199);
        Check.badState("the 201st", () -> k.add(0, true));
        Check.badArgument("below an interface, and there are 200", () -> k.add(199, false));
    }

    /** "A CLASS below another one, that is no interface (an interface: of 0)". */
    private static void interfacesAreOf0() {
        FlowJudge j = new FlowJudge();
        Check.same("below 0", j.add(0, false), 4);
        Check.same("below 1", j.add(1, false), 5);
        Check.badArgument("below 2", () -> j.add(2, false));
        Check.badArgument("below 3", () -> j.add(3, false));
        Check.same("below 4", j.add(4, false), 6);
        Check.same("an interface of 0", j.add(0, true), 7);
        Check.badArgument("below 7, an interface", () -> j.add(7, false));
        for (int up = 1; up <= 7; up++) {
            int c = up;
            Check.badArgument("an interface of " + c, () -> j.add(c, true));
        }
        Check.same("the next one", j.add(6, false), 8);
    }

    /** "an array: Object, 2 or 3 alone"; "an array of more dimensions for one of fewer of 0, 2 or 3". */
    private static void arraysStand() {
        FlowJudge j = new FlowJudge();
        j.add(0, true);
        j.add(0, false);
        for (int element : new int[] {0, 1, 2, 4, 5, 65528, INT, LONG}) {
            for (int dims : new int[] {1, 2, 254, 255}) {
                int s = dims * ARRAY + element;
                for (int fewer : new int[] {0, 1, dims - 1}) {
                    if (fewer >= dims) {
                        continue;
                    }
                    for (int other = 0; other < 6; other++) {
                        boolean may = other == 0 || other == 2 || other == 3;
                        Check.same(s + " for " + fewer + " dimensions of " + other,
                            j.stands(s, fewer * ARRAY + other) ? 1 : 0, may ? 1 : 0);
                        Check.no("nor the other way", j.stands(fewer * ARRAY + other, s));
                    }
                    Check.no(s + " for fewer dimensions of long", fewer > 0 && j.stands(s, fewer * ARRAY + LONG));
                }
                boolean isClass = element < 6;
                Check.same(s + " for as many of 0", j.stands(s, dims * ARRAY) ? 1 : 0, isClass ? 1 : 0);
                Check.same(s + " for as many of 4", j.stands(s, dims * ARRAY + 4) ? 1 : 0, isClass ? 1 : 0);
                Check.same(s + " for as many of 1", j.stands(s, dims * ARRAY + 1) ? 1 : 0, element == 1 ? 1 : 0);
                Check.same(s + " for as many of int", j.stands(s, dims * ARRAY + INT) ? 1 : 0, element == INT ? 1 : 0);
            }
        }
    }

    // ---- 2 CODE and promise 8

    private static boolean taken(FlowJudge j, int op, int a, int b) {
        try {
            j.put(op, a, b);
            return true;
        } catch (IllegalArgumentException e) {
            return false;
        }
    }

    private static FlowJudge world() {
        FlowJudge j = new FlowJudge();
        j.add(0, false);
        j.field(0, 0);
        j.field(4, INT);
        j.shape(0, -1, false);
        j.shape(4, 0, false);
        j.shape(4, -1, true);
        return j;
    }

    private static void edge(int op, int[] inside, int[] outside) {
        FlowJudge j = world();
        for (int a : inside) {
            Check.yes("put(" + op + ", " + a + ", 0)", taken(j, op, a, 0));
            Check.no("put(" + op + ", " + a + ", 1)", taken(j, op, a, 1));
            Check.no("put(" + op + ", " + a + ", -1)", taken(j, op, a, -1));
        }
        for (int a : outside) {
            Check.no("put(" + op + ", " + a + ", 0)", taken(j, op, a, 0));
        }
        Check.same("what throws puts nothing", j.put(0, 0, 0), inside.length);
    }

    private static int[] of(int... numbers) {
        return numbers;
    }

    /** "0 to 15, 46 to 53, 79 to 131, 133 to 152, 172 to 177, 190, 191, 194, 195 as they are"; "Others there are not". */
    private static void opcodes() {
        int[][] ranges = {{0, 15}, {46, 53}, {79, 131}, {133, 152}, {170, 177}, {190, 191}, {194, 195}};
        for (int[] range : ranges) {
            for (int op = range[0]; op <= range[1]; op++) {
                edge(op, of(0), of(1, -1, MAX, MIN));
            }
        }
        FlowJudge j = world();
        for (int op : new int[] {-1, 19, 26, 45, 59, 78, 196, 200, 201, 255, 256, MAX, MIN}) {
            for (int a : new int[] {0, 1, INT, LONG, ARRAY}) {
                Check.no("put(" + op + ", " + a + ", 0)", taken(j, op, a, 0));
                Check.no("put(" + op + ", " + a + ", 1)", taken(j, op, a, 1));
            }
        }
    }

    /** "0 where it has none" holds for b of all but 132 and 197. */
    private static void operandsThatAreNone() {
        FlowJudge j = world();
        for (int op = 0; op < 200; op++) {
            int a = op == 18 ? INT : op == 20 ? LONG : 0;
            if (op != 132 && op != 197 && taken(j, op, a, 0)) {
                for (int b : new int[] {1, -1, MAX, MIN}) {
                    Check.no("b " + b + " of " + op, taken(j, op, a, b));
                }
            }
        }
    }

    /** "16, 17: a the number"; "132: b the number"; "numbers are not looked at". */
    private static void numbers() {
        int[] any = {0, 1, -1, 127, 128, -129, 32767, 32768, MAX, MIN};
        edge(16, any, of());
        edge(17, any, of());
        FlowJudge j = world();
        for (int b : any) {
            Check.yes("put(132, 0, " + b + ")", taken(j, 132, 0, b));
            Check.yes("put(132, MAX, " + b + ")", taken(j, 132, MAX, b));
            Check.no("put(132, -1, " + b + ")", taken(j, 132, -1, b));
        }
    }

    /** "18: a a TYPE of one place, 20: long or double". */
    private static void constantsByPlaces() {
        edge(18, of(0, 4, 65528, 65529, 65530, 65532, 65533, 65534, ARRAY, ARRAY + LONG, ARRAY + 65531, 255 * ARRAY + LONG),
            of(65531, 65535, -1, 5, 65527, 256 * ARRAY, MAX, MIN));
        edge(20, of(65531, 65535), of(0, 65528, 65529, 65530, 65532, 65533, 65534, 65527, ARRAY, ARRAY + LONG, -1, MAX, MIN));
    }

    /** "locals and jumps are looked at by judge; below 0 here". */
    private static void localsAndJumps() {
        for (int op = 21; op <= 25; op++) {
            edge(op, of(0, 1, 200, MAX), of(-1, MIN));
            edge(op + 33, of(0, 1, 200, MAX), of(-1, MIN));
        }
        edge(169, of(0, 1, 200, MAX), of(-1, MIN));
        for (int op = 153; op <= 168; op++) {
            edge(op, of(0, 1, 1000, MAX), of(-1, MIN));
        }
        edge(198, of(0, 1, 1000, MAX), of(-1, MIN));
        edge(199, of(0, 1, 1000, MAX), of(-1, MIN));
    }

    /** "178 to 181: a a FIELD; 182 to 186: a a SHAPE"; "187: a a CLASS". */
    private static void membersByNumber() {
        for (int op = 178; op <= 181; op++) {
            edge(op, of(0, 1), of(2, -1, MAX, MIN));
        }
        for (int op = 182; op <= 186; op++) {
            edge(op, of(0, 1, 2), of(3, -1, MAX, MIN));
        }
        edge(187, of(0, 1, 2, 3, 4), of(5, -1, 65528, LONG, ARRAY, ARRAY + 4, MAX, MIN));
        FlowJudge j = new FlowJudge();
        for (int op = 178; op <= 186; op++) {
            Check.no("no FIELD and no SHAPE yet", taken(j, op, 0, 0));
        }
    }

    /** "188: a is k of a primitive; 189 ..; 192, 193: a a TYPE (no primitive); 197: .. b dimensions (1 to those of it)". */
    private static void arraysByDimensions() {
        edge(188, of(0, 7), of(-1, 8, 65528, MAX, MIN));
        int[] outside = {5, 65527, 65528, LONG, -1, 256 * ARRAY, 256 * ARRAY + INT, ARRAY + 5, MAX, MIN};
        edge(189, of(0, 4, ARRAY, ARRAY + LONG, 254 * ARRAY, 254 * ARRAY + INT), outside);
        edge(189, of(), of(255 * ARRAY, 255 * ARRAY + 4, 255 * ARRAY + INT));
        edge(192, of(0, 4, ARRAY, ARRAY + 65528, 255 * ARRAY, 255 * ARRAY + LONG), outside);
        edge(193, of(0, 4, ARRAY, ARRAY + 65528, 255 * ARRAY, 255 * ARRAY + LONG), outside);
        FlowJudge j = world();
        for (int element : new int[] {0, 4, 65528, LONG}) {
            for (int dims : new int[] {1, 2, 254, 255}) {
                int t = dims * ARRAY + element;
                Check.no("0 dimensions of " + t, taken(j, 197, t, 0));
                Check.yes("1 dimension of " + t, taken(j, 197, t, 1));
                Check.yes("all dimensions of " + t, taken(j, 197, t, dims));
                Check.no("one dimension more of " + t, taken(j, 197, t, dims + 1));
                Check.no("-1 dimensions of " + t, taken(j, 197, t, -1));
                Check.no("MAX dimensions of " + t, taken(j, 197, t, MAX));
            }
        }
        for (int t : new int[] {0, 4, 65528, LONG, 256 * ARRAY, ARRAY + 5, ARRAY + 65527, -1}) {
            Check.no("no array " + t, taken(j, 197, t, 1));
            Check.no("no array " + t, taken(j, 197, t, 0));
        }
    }

    // ---- promises 3 to 10

    private static void hundredFields() {
        FlowJudge j = new FlowJudge();
        for (int k = 0; k < 100; k++) {
            int f = k;
            Check.badArgument("FIELD " + k + " is not there yet", () -> j.put(178, f, 0));
            Check.same("FIELD " + k, j.field(k % 4, 65528 + k % 8), k);
        }
        Check.badState("the 101st FIELD", () -> j.field(0, 0));
        Check.badArgument("the 101st of no CLASS", () -> j.field(4, 0));
        Check.badArgument("the 101st of no TYPE", () -> j.field(0, 4));
        Check.badArgument("FIELD 100", () -> j.put(178, 100, 0));
        Check.same("FIELD 99 has its TYPE", Check.judged(j, "0 0 -1 1 2 / 178 99; 167 2; 167 2"), "0()[0] 2()[0|4,7]");
    }

    private static void hundredShapes() {
        FlowJudge j = new FlowJudge();
        for (int k = 0; k < 100; k++) {
            int s = k;
            Check.badArgument("SHAPE " + k + " is not there yet", () -> j.put(184, s, 0));
            Check.same("SHAPE " + k, j.shape(k % 4, k % 2 == 0 ? -1 : INT, false), k);
        }
        Check.badState("the 101st SHAPE", () -> j.shape(0, -1, false));
        Check.badState("the 101st, a constructor's", () -> j.shape(0, -1, true));
        Check.badArgument("the 101st of no CLASS", () -> j.shape(4, -1, false));
        Check.badArgument("the 101st of no result", () -> j.shape(0, -2, false));
        Check.badArgument("the 101st, a constructor's with a result", () -> j.shape(0, 0, true));
        Check.badArgument("SHAPE 100", () -> j.put(184, 100, 0));
        Check.same("the latest SHAPE takes", j.takes(INT), 1);
        Check.same("SHAPE 99 takes an int", Check.judged(j, "0 0 -1 0 1 / 3; 184 99; 167 3; 167 3"), "0()[] 3()[|1]");
        Check.same("SHAPE 98 takes none", Check.judged(j, "0 0 -1 0 1 / 184 98; 167 2; 167 2"), "0()[] 2()[]");
    }

    private static void twentyArguments() {
        FlowJudge j = new FlowJudge();
        Check.badState("no SHAPE", () -> j.takes(INT));
        j.shape(0, -1, false);
        j.method(0, 1, -1, 41, 40);
        for (int k = 1; k <= 20; k++) {
            Check.same("takes", j.takes(LONG), k);
            Check.same("argument", j.argument(LONG), k);
        }
        Check.badState("takes a 21st", () -> j.takes(INT));
        Check.badState("a 21st argument", () -> j.argument(INT));
        Check.badArgument("takes a 21st of no TYPE", () -> j.takes(4));
        Check.badArgument("a 21st argument of no TYPE", () -> j.argument(4));
        for (int k = 0; k < 20; k++) {
            j.put(22, 1 + 2 * k, 0);
        }
        Check.put(j, "184 0; 177");
        Check.same("all 20", j.judge(), 1);
        j.shape(0, -1, false);
        Check.same("another SHAPE takes again", j.takes(INT), 1);
        j.method(0, 0, -1, 0, 0);
        Check.same("another METHOD has arguments again", j.argument(INT), 1);
    }

    /** "places below 0 or above 200"; "another how". */
    private static void placesUpTo200() {
        FlowJudge j = new FlowJudge();
        int[] inside = {0, 1, 199, 200};
        int[] outside = {-1, 201, MAX, MIN};
        for (int n : inside) {
            Check.same("locals " + n, j.method(0, 0, -1, n, 0), 0);
            Check.same("stack " + n, j.method(0, 0, -1, 0, n), 0);
            Check.same("locals and stack " + n, j.method(0, 0, -1, n, n), 0);
        }
        for (int n : outside) {
            Check.badArgument("locals " + n, () -> j.method(0, 0, -1, n, 0));
            Check.badArgument("stack " + n, () -> j.method(0, 0, -1, 0, n));
        }
        for (int how = 0; how <= 2; how++) {
            Check.same("how " + how, j.method(1, how, -1, 1, 1), 0);
        }
        for (int how : new int[] {-1, 3, MAX, MIN}) {
            Check.badArgument("how " + how, () -> j.method(1, how, -1, 1, 1));
        }
    }

    /** 1000 INSTRUCTIONS need more calls than an object is promised for; the boundary holds all the same. */
    private static void thousandInstructions() {
        FlowJudge j = new FlowJudge();
        j.method(0, 0, -1, 1, 1);
        for (int k = 0; k < 999; k++) {
            Check.same("put", j.put(0, 0, 0), k);
        }
        Check.same("the 1000th", j.put(177, 0, 0), 999);
        Check.badState("the 1001st", () -> j.put(177, 0, 0));
        Check.badArgument("the 1001st that is none", () -> j.put(19, 0, 0));
        Check.same("all of them", Check.frames(j, j.judge(), 1), "0()[0]");
        j.method(0, 0, -1, 1, 1);
        Check.same("INSTRUCTION 0 again", j.put(167, 998, 0), 0);
        for (int k = 1; k < 998; k++) {
            j.put(0, 0, 0);
        }
        Check.put(j, "187 0; 168 999");
        Check.same("the last jsr has none behind it", j.judge(), -1);
    }

    private static void fiftyTargets() {
        for (int op = 170; op <= 171; op++) {
            FlowJudge j = new FlowJudge();
            j.method(0, 0, -1, 0, 1);
            j.put(3, 0, 0);
            j.put(op, 0, 0);
            Check.badArgument("to(-1)", () -> j.to(-1));
            Check.badArgument("to(MIN)", () -> j.to(MIN));
            for (int k = 1; k <= 50; k++) {
                Check.same("to", j.to(k == 50 ? 2 : 0), k);
            }
            Check.badState("the 51st", () -> j.to(0));
            Check.badArgument("the 51st below 0", () -> j.to(-1));
            j.put(177, 0, 0);
            Check.same("the 50th is a TARGET", Check.frames(j, j.judge(), 0), "0()[] 2()[]");
        }
    }

    /** "The latest INSTRUCTION, a switch": 169 and 172 are none. */
    private static void latestIsASwitch() {
        FlowJudge j = world();
        Check.badState("no INSTRUCTION", () -> j.to(0));
        for (int op = 0; op < 200; op++) {
            int a = op == 18 ? INT : op == 20 ? LONG : op == 197 ? ARRAY : 0;
            if (!taken(j, op, a, op == 197 ? 1 : 0)) {
                continue;
            }
            if (op == 170 || op == 171) {
                Check.same("to behind " + op, j.to(MAX), 1);
                Check.same("to behind " + op, j.to(0), 2);
            } else {
                Check.badState("to behind " + op, () -> j.to(0));
                Check.badArgument("to below 0 behind " + op, () -> j.to(-1));
            }
        }
        j.put(170, 0, 0);
        j.method(0, 0, -1, 0, 0);
        Check.badState("the switch is of another METHOD", () -> j.to(0));
    }

    private static void fiftyRows() {
        FlowJudge j = new FlowJudge();
        int[][] outside = {{-1, 1, 0, -1}, {0, -1, 0, -1}, {0, 1, -1, -1}, {0, 1, 0, -2}, {0, 1, 0, 4}, {MIN, MIN, MIN, MIN}};
        for (int k = 1; k <= 50; k++) {
            for (int[] r : outside) {
                Check.badArgument("no ROW", () -> j.row(r[0], r[1], r[2], r[3]));
            }
            Check.same("row", j.row(k == 50 ? 0 : MAX, k == 50 ? 0 : MAX, MAX, k % 5 - 1), k);
        }
        for (int[] r : outside) {
            Check.badArgument("no ROW, and there are 50", () -> j.row(r[0], r[1], r[2], r[3]));
        }
        Check.badState("the 51st", () -> j.row(0, 0, 0, 0));
        j.method(0, 0, -1, 0, 0);
        Check.same("another METHOD has ROWS again", j.row(0, 0, 0, 0), 1);
    }

    /** "a constructor's that is not -1 or of an interface"; "or not -1 of a constructor; a constructor of an interface". */
    private static void constructorsOfNothing() {
        FlowJudge j = new FlowJudge();
        int i = j.add(0, true);
        int a = j.add(0, false);
        int shapes = 0;
        for (int c : new int[] {0, 1, a}) {
            Check.same("a constructor's SHAPE", j.shape(c, -1, true), shapes++);
            Check.same("a constructor", j.method(c, 2, -1, 1, 1), 0);
            for (int result : new int[] {0, c, INT, LONG, ARRAY}) {
                Check.badArgument("a constructor's SHAPE with " + result, () -> j.shape(c, result, true));
                Check.badArgument("a constructor with " + result, () -> j.method(c, 2, result, 1, 1));
                Check.same("no constructor's with " + result, j.shape(c, result, false), shapes++);
                Check.same("no constructor with " + result, j.method(c, 1, result, 1, 1), 0);
            }
        }
        for (int c : new int[] {2, 3, i}) {
            Check.badArgument("an interface's constructor's SHAPE", () -> j.shape(c, -1, true));
            Check.badArgument("an interface's constructor", () -> j.method(c, 2, -1, 1, 1));
            Check.same("an interface's SHAPE", j.shape(c, -1, false), shapes++);
            Check.same("an interface's METHOD", j.method(c, 1, -1, 1, 1), 0);
            Check.same("an interface's static METHOD", j.method(c, 0, -1, 1, 1), 0);
        }
    }

    /** "A METHOD begins: .. with .. nothing else"; CLASSES, FIELDS, SHAPES and FRAMES stay. */
    private static void beginsAnew() {
        FlowJudge j = world();
        Check.same("with everything",
            Check.judged(j, "4 1 -1 4 2 65534 65535 / 3; 170 > 2; 177; 87; 177; : 0 1 3 1"),
            "0()[72,1,3,7] 2()[72,1,3,7] 3()[72,1,3,7|24]");
        long h = j.digest();
        j.method(4, 0, -1, 1, 1);
        Check.same("FRAMES stay", j.digest(), h);
        Check.same("there is no INSTRUCTION", j.judge(), -1);
        Check.noFrames(j);
        Check.same("the first INSTRUCTION", j.put(177, 0, 0), 0);
        Check.same("no argument, no ROW", Check.frames(j, j.judge(), 1), "0()[0]");
        Check.same("the first argument", j.argument(INT), 1);
        Check.same("the first ROW", j.row(0, 1, 0, -1), 1);
        Check.same("the next CLASS", j.add(0, false), 5);
        Check.same("the next FIELD", j.field(0, 0), 2);
        Check.same("the next SHAPE", j.shape(0, -1, false), 3);
    }

    // ---- 4 TOLD and promises 12 to 15

    private static void framesByNumber() {
        FlowJudge j = new FlowJudge();
        Check.noFrames(j);
        j.method(0, 0, -1, 2, 3);
        Check.put(j, "3; 168 3; 177; 168 5; 177; 177");
        int count = j.judge();
        Check.same("FRAMES", count, 3);
        int[] lengths = {0, 1, 2};
        int[] heights = {0, 2, 3};
        for (int n = 0; n < count; n++) {
            Check.same("ADDRESSES", j.frame(n, 1), lengths[n]);
            Check.same("places", j.frame(n, 2), heights[n]);
            for (int i = -1; i <= lengths[n]; i++) {
                boolean isOne = i >= 0 && i < lengths[n];
                Check.same("context(" + n + ", " + i + ")", j.context(n, i), isOne ? 2 + 2 * i : -1);
            }
            for (int i = -1; i <= 2 + heights[n]; i++) {
                int due = i < 0 || i >= 2 + heights[n] ? -1 : i < 2 ? 0 : i == 2 ? 1 : 16 * (2 * i - 4) + 10;
                Check.same("told(" + n + ", " + i + ")", j.told(n, i), due);
            }
            for (int i : new int[] {MAX, MIN, 1 << 30, -(1 << 30)}) {
                Check.same("context(" + n + ", " + i + ")", j.context(n, i), -1);
                Check.same("told(" + n + ", " + i + ")", j.told(n, i), -1);
            }
        }
        for (int n : new int[] {-1, count, MAX, MIN, 1 << 30}) {
            for (int what = 0; what <= 3; what++) {
                Check.same("frame(" + n + ", " + what + ")", j.frame(n, what), -1);
            }
            Check.same("context(" + n + ", 0)", j.context(n, 0), -1);
            Check.same("told(" + n + ", 0)", j.told(n, 0), -1);
        }
        for (int n = -1; n <= count; n++) {
            int frame = n;
            for (int what : new int[] {-1, 4, MAX, MIN}) {
                Check.badArgument("frame(" + n + ", " + what + ")", () -> j.frame(frame, what));
            }
        }
    }

    /** "A place is told as 0 .., 16 times and 10": the least and the greatest number of each kind. */
    private static void toldByKind() {
        FlowJudge j = new FlowJudge();
        j.add(0, false);
        int greatest = 255 * ARRAY + LONG;
        Check.same("all kinds", Check.judged(j, "4 2 -1 10 4 65534 65530 65535 65531 0 " + greatest
            + " / 167 1; 187 4; 1; 168 4; 1; 191"),
            "0()[6,1,2,3,7,4,7,8," + (16 * greatest + 8) + ",0] 1()[6,1,2,3,7,4,7,8," + (16 * greatest + 8)
                + ",0] 4(4)[6,1,2,3,7,4,7,8," + (16 * greatest + 8) + ",0|25,5,74]");
        Check.same("NEW of 0", Check.judged(j, "0 0 -1 0 1 / 187 0; 167 2; 167 2"), "0()[] 2()[|9]");
        Check.same("ADDRESS 1", Check.judged(j, "0 0 -1 0 1 / 168 1; 167 2; 167 2"), "0()[] 1(1)[|26] 2(1)[|26]");
        FlowJudge far = new FlowJudge();
        far.method(0, 0, -1, 0, 2);
        for (int k = 0; k < 500; k++) {
            far.put(0, 0, 0);
        }
        Check.put(far, "187 0; 168 502; 177");
        Check.same("far behind", Check.frames(far, far.judge(), 0),
            "0()[] 502(502)[|" + (16 * 500 + 9) + "," + (16 * 502 + 10) + "]");
    }

    /** "in the order of their INSTRUCTIONS, of one by CONTEXTS (at the first difference ..)". */
    private static void toldInOrder() {
        FlowJudge j = new FlowJudge();
        Check.same("come to from the last one on", Check.judged(j, "0 0 -1 0 1 / 167 4; 177; 167 1; 167 2; 167 3"),
            "0()[] 1()[] 2()[] 3()[] 4()[]");
        Check.same("what ends first, and the lesser ADDRESS at the first difference", Check.judged(j, "0 0 -1 0 3 / "
            + "3; 153 6; 3; 153 8; 168 10; 177; 168 10; 177; 168 10; 177; 3; 153 14; 168 14; 177; 177"),
            "0()[] 6()[] 8()[] 10(5)[|90] 10(7)[|122] 10(9)[|154] 14(5)[|90] 14(5,13)[|90,218] "
                + "14(7)[|122] 14(7,13)[|122,218] 14(9)[|154] 14(9,13)[|154,218]");
        Check.same("no CONTEXT ends first", Check.judged(j, "0 0 -1 0 2 / 3; 153 3; 168 3; 177"), "0()[] 3()[] 3(3)[|58]");
        Check.same("a difference behind what is the same",
            Check.judged(j, "0 0 -1 0 3 / 168 2; 177; 3; 153 6; 168 8; 177; 168 8; 177; 177"),
            "0()[] 2(1)[|26] 6(1)[|26] 8(1,5)[|26,90] 8(1,7)[|26,122]");
    }

    /** "h = 31 * h + each": in long, with Java's wrap-around. */
    private static void digestWrapsAround() {
        FlowJudge j = new FlowJudge();
        int greatest = 255 * ARRAY + LONG;
        Check.judged(j, "0 1 -1 6 3 " + greatest + " 65535 / 167 1; 168 3; 177; 58 5; 18 " + greatest + "; 58 4; 169 5");
        BigInteger h = BigInteger.valueOf(7);
        for (int n = 0; j.frame(n, 0) >= 0; n++) {
            for (int what = 0; what < 4; what++) {
                h = h.multiply(BigInteger.valueOf(31)).add(BigInteger.valueOf(j.frame(n, what)));
            }
            for (int i = 0; j.told(n, i) >= 0; i++) {
                h = h.multiply(BigInteger.valueOf(31)).add(BigInteger.valueOf(j.told(n, i)));
            }
        }
        Check.yes("it is beyond a long", h.bitLength() > 100);
        Check.same("the lower 64 bits of it", j.digest(), h.longValue());
    }
}
