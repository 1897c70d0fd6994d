/** Promises 1, 2, 16 and 17: a new object, add, stands and common. */
public final class TypesTest {
    private static final int ARRAY = 65536;
    private static final int INT = 65534;
    private static final int LONG = 65535;

    public static void main(String[] args) {
        newObject();
        add();
        addThrows();
        addIsFull();
        standsForClasses();
        standsForArrays();
        standsThrows();
        commonOfClasses();
        commonOfArrays();
        commonThrows();
        Check.end("TypesTest");
    }

    private static void newObject() {
        FlowJudge j = new FlowJudge();
        Check.same("frames told of a new object", j.told(0, 0), -1);
        Check.same("frame of a new object", j.frame(0, 0), -1);
        Check.same("context of a new object", j.context(0, 0), -1);
        Check.same("digest of a new object", j.digest(), 7);
        Check.same("judge without INSTRUCTIONS", j.judge(), -1);
        Check.yes("CLASS 3 is there", j.stands(3, 3));
        Check.badArgument("CLASS 4 is not there", () -> j.stands(4, 4));
        Check.yes("1 is below 0", j.stands(1, 0));
        Check.no("0 is not below 1", j.stands(0, 1));
        Check.badArgument("no FIELD", () -> j.put(178, 0, 0));
        Check.badArgument("no SHAPE", () -> j.put(184, 0, 0));
        Check.badState("no SHAPE for takes", () -> j.takes(0));
        FlowJudge fresh = new FlowJudge();
        Check.same("the first INSTRUCTION", fresh.put(177, 0, 0), 0);
        Check.same("the METHOD that is there is static, without result and places", Check.frames(fresh, fresh.judge(), 0),
            "0()[]");
        FlowJudge full = new FlowJudge();
        Check.put(full, "1; 87; 177");
        Check.same("it has no place on the stack", full.judge(), -1);
        FlowJudge withArgument = new FlowJudge();
        Check.same("its first argument", withArgument.argument(0), 1);
        withArgument.put(177, 0, 0);
        Check.same("it has no place for an argument", withArgument.judge(), -1);
    }

    private static void add() {
        FlowJudge j = new FlowJudge();
        Check.same("add(0, false)", j.add(0, false), 4);
        Check.same("add(4, false)", j.add(4, false), 5);
        Check.same("add(0, true)", j.add(0, true), 6);
        Check.same("add(1, false)", j.add(1, false), 7);
        Check.same("add(7, false)", j.add(7, false), 8);
        Check.yes("8 is below 1", j.stands(8, 1));
        Check.yes("5 is below 4", j.stands(5, 4));
        Check.no("4 is not below 5", j.stands(4, 5));
    }

    private static void addThrows() {
        FlowJudge j = new FlowJudge();
        int i = j.add(0, true);
        Check.badArgument("add(-1, false)", () -> j.add(-1, false));
        Check.badArgument("add(5, false)", () -> j.add(5, false));
        Check.badArgument("add(MIN, false)", () -> j.add(Integer.MIN_VALUE, false));
        Check.badArgument("add(MAX, true)", () -> j.add(Integer.MAX_VALUE, true));
        Check.badArgument("below Cloneable", () -> j.add(2, false));
        Check.badArgument("below Serializable", () -> j.add(3, false));
        Check.badArgument("below an interface", () -> j.add(i, false));
        Check.badArgument("an interface below an interface", () -> j.add(i, true));
        Check.badArgument("an interface below 1", () -> j.add(1, true));
        Check.badArgument("no TYPE is a CLASS", () -> j.add(INT, false));
        Check.same("what throws adds nothing", j.add(1, false), 5);
    }

    private static void addIsFull() {
        FlowJudge j = new FlowJudge();
        for (int c = 4; c < 200; c++) {
            Check.same("a chain of CLASSES", j.add(c == 4 ? 0 : c - 1, false), c);
        }
        Check.badState("the 201st", () -> j.add(0, false));
        Check.badState("the 201st, an interface", () -> j.add(0, true));
        Check.badArgument("below no CLASS, also if there are 200", () -> j.add(200, false));
        Check.yes("the last is below the first", j.stands(199, 4));
        Check.no("the first is not below the last", j.stands(4, 199));
        Check.same("the last and the middle", j.common(199, 100), 100);
    }

    private static void standsForClasses() {
        FlowJudge j = new FlowJudge();
        int a = j.add(0, false);
        int b = j.add(a, false);
        int c = j.add(a, false);
        int i = j.add(0, true);
        Check.yes("itself", j.stands(b, b));
        Check.yes("superclass", j.stands(b, a));
        Check.yes("Object", j.stands(b, 0));
        Check.no("a sister", j.stands(b, c));
        Check.no("subclass", j.stands(a, b));
        Check.yes("any interface", j.stands(b, i));
        Check.yes("Object for an interface", j.stands(0, i));
        Check.yes("an interface for another", j.stands(i, 2));
        Check.yes("an interface for Object", j.stands(i, 0));
        Check.no("an interface for a CLASS", j.stands(i, a));
        for (int k = 65528; k <= LONG; k++) {
            for (int m = 65528; m <= LONG; m++) {
                Check.same("primitives " + k + " " + m, j.stands(k, m) ? 1 : 0, k == m ? 1 : 0);
            }
            Check.no("a primitive for Object", j.stands(k, 0));
            Check.no("a primitive for an interface", j.stands(k, i));
            Check.no("Object for a primitive", j.stands(0, k));
            Check.no("an array for a primitive", j.stands(ARRAY + k, k));
            Check.no("a primitive for an array", j.stands(k, ARRAY));
        }
    }

    private static void standsForArrays() {
        FlowJudge j = new FlowJudge();
        int a = j.add(0, false);
        int b = j.add(a, false);
        int i = j.add(0, true);
        for (int of = 0; of <= 3; of++) {
            boolean may = of != 1;
            Check.same("b[] for " + of, j.stands(ARRAY + b, of) ? 1 : 0, may ? 1 : 0);
            Check.same("int[] for " + of, j.stands(ARRAY + INT, of) ? 1 : 0, may ? 1 : 0);
            Check.same("int[][] for [] of " + of, j.stands(2 * ARRAY + INT, ARRAY + of) ? 1 : 0, may ? 1 : 0);
            Check.same("b[][][] for [] of " + of, j.stands(3 * ARRAY + b, ARRAY + of) ? 1 : 0, may ? 1 : 0);
        }
        Check.no("b[] for an interface", j.stands(ARRAY + b, i));
        Check.no("b[][] for arrays of an interface", j.stands(2 * ARRAY + b, ARRAY + i));
        Check.yes("b[] for an array of an interface", j.stands(ARRAY + b, ARRAY + i));
        Check.yes("Object[] for an array of an interface", j.stands(ARRAY, ARRAY + i));
        Check.yes("b[] for a[]", j.stands(ARRAY + b, ARRAY + a));
        Check.no("a[] for b[]", j.stands(ARRAY + a, ARRAY + b));
        Check.no("b[] for b[][]", j.stands(ARRAY + b, 2 * ARRAY + b));
        Check.no("b[][] for b[]", j.stands(2 * ARRAY + b, ARRAY + b));
        Check.no("Object for Object[]", j.stands(0, ARRAY));
        Check.no("Cloneable for Object[]", j.stands(2, ARRAY));
        Check.no("int[] for Object[]", j.stands(ARRAY + INT, ARRAY));
        Check.no("int[] for long[]", j.stands(ARRAY + INT, ARRAY + LONG));
        Check.yes("int[] for int[]", j.stands(ARRAY + INT, ARRAY + INT));
        Check.no("Object[] for int[]", j.stands(ARRAY, ARRAY + INT));
        Check.no("int[][] for int[]", j.stands(2 * ARRAY + INT, ARRAY + INT));
        Check.yes("255 dimensions for 254", j.stands(255 * ARRAY + a, 254 * ARRAY));
        Check.no("254 dimensions for 255", j.stands(254 * ARRAY + a, 255 * ARRAY));
    }

    private static final int[] NO_TYPES = {
        -1, Integer.MIN_VALUE, 4, 65527, ARRAY + 4, ARRAY + 65527, 256 * ARRAY, 256 * ARRAY + INT, Integer.MAX_VALUE,
    };

    private static void standsThrows() {
        FlowJudge j = new FlowJudge();
        for (int t : NO_TYPES) {
            Check.badArgument("stands(" + t + ", 0)", () -> j.stands(t, 0));
            Check.badArgument("stands(0, " + t + ")", () -> j.stands(0, t));
            Check.badArgument("stands(t, t) of " + t, () -> j.stands(t, t));
        }
        Check.yes("255 dimensions are a TYPE", j.stands(255 * ARRAY + LONG, 255 * ARRAY + LONG));
    }

    private static void commonOfClasses() {
        FlowJudge j = new FlowJudge();
        int a = j.add(0, false);
        int b = j.add(a, false);
        int c = j.add(a, false);
        int d = j.add(c, false);
        int i = j.add(0, true);
        Check.same("the same", j.common(d, d), d);
        Check.same("with its superclass", j.common(d, c), c);
        Check.same("sisters", j.common(b, c), a);
        Check.same("aunt", j.common(b, d), a);
        Check.same("none but Object", j.common(b, 1), 0);
        Check.same("an interface and a CLASS", j.common(i, d), 0);
        Check.same("two interfaces", j.common(i, 2), 0);
        Check.same("one interface", j.common(i, i), i);
        Check.same("Object", j.common(0, d), 0);
    }

    private static void commonOfArrays() {
        FlowJudge j = new FlowJudge();
        int a = j.add(0, false);
        int b = j.add(a, false);
        int c = j.add(a, false);
        int i = j.add(0, true);
        bothWays(j, ARRAY + b, ARRAY + c, ARRAY + a);
        bothWays(j, 3 * ARRAY + b, 3 * ARRAY + c, 3 * ARRAY + a);
        bothWays(j, ARRAY + b, ARRAY + i, ARRAY);
        bothWays(j, 2 * ARRAY + b, ARRAY + b, ARRAY);
        bothWays(j, 3 * ARRAY + b, 2 * ARRAY + b, 2 * ARRAY);
        bothWays(j, ARRAY + INT, ARRAY + INT, ARRAY + INT);
        bothWays(j, ARRAY + INT, ARRAY + LONG, 0);
        bothWays(j, ARRAY + INT, ARRAY + b, 0);
        bothWays(j, 2 * ARRAY + INT, ARRAY + b, ARRAY);
        bothWays(j, 2 * ARRAY + INT, 2 * ARRAY + b, ARRAY);
        bothWays(j, 2 * ARRAY + INT, 2 * ARRAY + LONG, ARRAY);
        bothWays(j, 3 * ARRAY + INT, 2 * ARRAY + INT, ARRAY);
        bothWays(j, 3 * ARRAY + INT, 2 * ARRAY + b, 2 * ARRAY);
        bothWays(j, 255 * ARRAY + INT, 255 * ARRAY + b, 254 * ARRAY);
        bothWays(j, ARRAY + b, b, 0);
        bothWays(j, ARRAY + b, i, 0);
        bothWays(j, ARRAY + b, 2, 0);
        bothWays(j, ARRAY + INT, 0, 0);
        bothWays(j, ARRAY + 2, ARRAY + 3, ARRAY);
    }

    private static void bothWays(FlowJudge j, int s, int t, int due) {
        Check.same("common(" + s + ", " + t + ")", j.common(s, t), due);
        Check.same("common(" + t + ", " + s + ")", j.common(t, s), due);
    }

    private static void commonThrows() {
        FlowJudge j = new FlowJudge();
        for (int t : NO_TYPES) {
            Check.badArgument("common(" + t + ", 0)", () -> j.common(t, 0));
            Check.badArgument("common(0, " + t + ")", () -> j.common(0, t));
        }
        for (int k = 65528; k <= LONG; k++) {
            int t = k;
            Check.badArgument("common of a primitive", () -> j.common(t, t));
            Check.badArgument("common of a primitive and Object", () -> j.common(t, 0));
            Check.badArgument("common of Object and a primitive", () -> j.common(0, t));
        }
    }
}
