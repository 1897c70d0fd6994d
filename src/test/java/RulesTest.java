import java.util.ArrayList;
import java.util.List;

/**
 * 3 JUDGED, "Each INSTRUCTION asks of what is there what its rule in 4.10.1 asks, and leaves what that says":
 * each INSTRUCTION with every row of as many values of KINDS as it takes (what just moves places: of MOVED), and
 * each that uses a local with every one of KINDS in it. What stands for what is asked of the class itself: that
 * is TypesTest's to look at.
 */
public final class RulesTest {
    private static final int ARRAY = 65536;
    private static final int OWNER = 4;
    private static final int MOST_CALLS = 512;
    private static final int ROOM = 12;

    private static FlowJudge j;
    private static int calls = MOST_CALLS;

    public static void main(String[] args) {
        plainRules();
        shuffleRules();
        fieldRules();
        invokeRules();
        specialRules();
        constructorRules();
        returnRules();
        throwRules();
        loadRules();
        storeRules();
        Check.end("RulesTest");
    }

    // ---- values

    /** How a value is told; of a reference also its TYPE. */
    private record Value(char kind, int type, int told) {
        boolean isWide() {
            return kind == 'L' || kind == 'D';
        }
    }

    /** What pushes a value of each kind: int float long double null, references, NEW, THIS and an ADDRESS. */
    private static final String[] KINDS = {
        "3", "11", "9", "14", "1", "18 0", "18 1", "18 2", "18 3", "18 4", "18 5", "18 6", "18 7", "18 8",
        "18 65536", "18 65537", "18 65538", "18 65540", "18 65541", "18 65542",
        "18 131064", "18 131065", "18 131066", "18 131067", "18 131068", "18 131069", "18 131070", "18 131071",
        "18 131072", "18 131076", "18 131078", "18 196606", "187 4", "187 5", "25 0", "168",
    };

    /** One METHOD of OWNER as it is told: its INSTRUCTIONS, and what they have left on the stack so far. */
    private static final class Told {
        final List<int[]> code = new ArrayList<>();
        final List<Value> stack = new ArrayList<>();

        void push(String kind) {
            String[] words = kind.split(" ");
            int op = Integer.parseInt(words[0]);
            int a = words.length > 1 ? Integer.parseInt(words[1]) : 0;
            int i = code.size();
            code.add(new int[] {op, op == 168 ? i + 1 : a, 0});
            switch (op) {
                case 3: stack.add(new Value('I', -1, 1)); break;
                case 11: stack.add(new Value('F', -1, 2)); break;
                case 9: stack.add(new Value('L', -1, 3)); break;
                case 14: stack.add(new Value('D', -1, 4)); break;
                case 1: stack.add(new Value('0', -1, 5)); break;
                case 25: stack.add(new Value('T', -1, 6)); break;
                case 18: stack.add(new Value('R', a, 16 * a + 8)); break;
                case 187: stack.add(new Value('N', a, 16 * i + 9)); break;
                default: stack.add(new Value('A', -1, 16 * (i + 1) + 10)); break;
            }
        }
    }

    private static int placesOf(List<Value> stack) {
        int places = 0;
        for (Value v : stack) {
            places += v.isWide() ? 2 : 1;
        }
        return places;
    }

    private static String textOf(List<Value> stack) {
        StringBuilder text = new StringBuilder();
        for (Value v : stack) {
            text.append(' ').append(v.told).append(v.isWide() ? " 7" : "");
        }
        return text.toString();
    }

    // ---- rules

    /** What an INSTRUCTION takes, from below, and what it leaves. */
    private record Rule(int op, int a, int b, String[] takes, String leaves) {
    }

    private static Rule rule(int op, int a, int b, String text) {
        String[] two = text.split("->", -1);
        String takes = two[0].trim();
        return new Rule(op, a, b, takes.isEmpty() ? new String[0] : takes.split(" "), two[1].trim());
    }

    private static boolean fits(String asked, Value v) {
        boolean isArray = v.kind == 'R' && v.type >= ARRAY;
        String[] two = asked.split(":");
        switch (two[0]) {
            case "int": return v.kind == 'I';
            case "float": return v.kind == 'F';
            case "long": return v.kind == 'L';
            case "double": return v.kind == 'D';
            case "reference": return "0RNT".indexOf(v.kind) >= 0;
            case "array": return v.kind == '0' || isArray;
            case "arrayOf": return v.kind == '0' || isArray && (":" + asked.substring(8) + ":").contains(":" + (v.type - ARRAY) + ":");
            case "arrayOfReferences": return v.kind == '0' || isArray && (v.type < ARRAY + 65528 || v.type >= 2 * ARRAY);
            case "to": return v.kind == '0' || v.kind == 'R' && fresh(1).stands(v.type, Integer.parseInt(two[1]));
            case "toOrThis": return v.kind == 'T' || fits("to:" + two[1], v);
            default: throw new IllegalStateException(asked);
        }
    }

    private static String asked(int type) {
        switch (type) {
            case 65530: return "float";
            case 65531: return "double";
            case 65535: return "long";
            default: return type >= 65528 && type < ARRAY ? "int" : "to:" + type;
        }
    }

    private static String left(int type) {
        if (type < 0) {
            return "";
        }
        String asked = asked(type);
        return asked.startsWith("to:") ? "" + type : asked;
    }

    private static Value leftBy(Rule r, List<Value> taken) {
        switch (r.leaves) {
            case "int": return new Value('I', -1, 1);
            case "float": return new Value('F', -1, 2);
            case "long": return new Value('L', -1, 3);
            case "double": return new Value('D', -1, 4);
            case "null": return new Value('0', -1, 5);
            case "component": {
                Value array = taken.get(0);
                return array.kind == '0' ? array : new Value('R', -1, 16 * (array.type - ARRAY) + 8);
            }
            default: return new Value('R', -1, 16 * Integer.parseInt(r.leaves) + 8);
        }
    }

    /** What is on the stack behind an INSTRUCTION, or "refused". */
    private static String due(Rule r, List<Value> stack) {
        int below = stack.size() - r.takes.length;
        if (below < 0) {
            return "refused";
        }
        for (int k = 0; k < r.takes.length; k++) {
            if (!fits(r.takes[k], stack.get(below + k))) {
                return "refused";
            }
        }
        List<Value> after = new ArrayList<>(stack.subList(0, below));
        if (!r.leaves.isEmpty()) {
            after.add(leftBy(r, stack.subList(below, stack.size())));
        }
        return textOf(after);
    }

    // ---- what the class says

    private static FlowJudge fresh(int more) {
        if (calls + more > MOST_CALLS) {
            j = new FlowJudge();
            j.add(0, false);
            j.add(4, false);
            j.add(0, true);
            j.add(1, false);
            j.add(4, false);
            calls = 5 + members();
        }
        calls += more;
        return j;
    }

    /** FIELDS and SHAPES as a test needs them: CLASS and TYPE, or CLASS, result, 1 of a constructor, arguments. */
    private static int[][] fields = {};
    private static int[][] shapes = {};

    private static int members() {
        int made = 0;
        for (int[] f : fields) {
            j.field(f[0], f[1]);
            made++;
        }
        for (int[] s : shapes) {
            j.shape(s[0], s[1], s[2] == 1);
            for (int k = 3; k < s.length; k++) {
                j.takes(s[k]);
            }
            made += s.length - 2;
        }
        return made;
    }

    private static void tell(Told told, int op, int a, int b, int end) {
        for (int[] x : told.code) {
            j.put(x[0], x[1], x[2]);
        }
        boolean jumps = op >= 153 && op <= 167 || op >= 198;
        j.put(op, jumps ? end : a, b);
        if (op == 170 || op == 171) {
            j.to(end);
        }
    }

    /** The METHOD goes on behind the INSTRUCTION, by whatever way, to the last one of all. */
    private static String stackAfter(Told told, Rule r, int stack) {
        int end = told.code.size() + 2;
        fresh(20 + 2 * told.code.size());
        j.method(OWNER, 2, -1, 1, stack);
        tell(told, r.op, r.a, r.b, end);
        j.put(167, end, 0);
        j.put(167, end, 0);
        int count = j.judge();
        if (count < 0) {
            return "refused";
        }
        StringBuilder text = new StringBuilder();
        int height = j.frame(count - 1, 2);
        for (int k = 0; k < height; k++) {
            text.append(' ').append(j.told(count - 1, 1 + k));
        }
        return text.toString();
    }

    private static void look(Rule r, String... kinds) {
        Told told = new Told();
        for (String kind : kinds) {
            told.push(kind);
        }
        String due = due(r, told.stack);
        String what = r.op + " " + r.a + " " + r.b + " behind " + String.join("; ", kinds);
        Check.same(what, stackAfter(told, r, ROOM), due);
        if (!due.equals("refused")) {
            lookAtRoom(r, told, due, what);
        }
    }

    /** "the stack never has more places than there are": as many as are needed are enough, one less is not. */
    private static void lookAtRoom(Rule r, Told told, String due, String what) {
        int after = due.isEmpty() ? 0 : due.trim().split(" ").length;
        int needed = Math.max(placesOf(told.stack), after);
        Check.same(what + ", with room", stackAfter(told, r, needed), due);
        if (needed > 0) {
            Check.same(what + ", without room", stackAfter(told, r, needed - 1), "refused");
        }
    }

    /** All rows of as many values as the rule takes, and those with one value less; some with one more below. */
    private static void lookAtAll(Rule r) {
        int n = r.takes.length;
        look(r);
        look(r, "3");
        look(r, "9");
        if (n == 0) {
            return;
        }
        for (String x : KINDS) {
            look(r, x);
            for (int k = 1; k < KINDS.length && n >= 2; k++) {
                look(r, x, KINDS[k]);
            }
            if (n >= 2) {
                look(r, x, "3");
                look(r, "1", x, "3");
                look(r, "14", "3", x);
            } else {
                look(r, "14", x);
            }
        }
        if (n == 3) {
            lookAtThree(r);
        }
    }

    private static void lookAtThree(Rule r) {
        for (String x : KINDS) {
            for (String y : KINDS) {
                for (String z : KINDS) {
                    look(r, x, y, z);
                }
            }
        }
    }

    // ---- the rules of 4.10.1

    private static final String[] PLAIN = {
        "0 ->", "1 -> null", "2-8 -> int", "9-10 -> long", "11-13 -> float", "14-15 -> double",
        "46 arrayOf:65534 int -> int", "47 arrayOf:65535 int -> long", "48 arrayOf:65530 int -> float",
        "49 arrayOf:65531 int -> double", "50 arrayOfReferences int -> component",
        "51 arrayOf:65532:65528 int -> int", "52 arrayOf:65529 int -> int", "53 arrayOf:65533 int -> int",
        "79 arrayOf:65534 int int ->", "80 arrayOf:65535 int long ->", "81 arrayOf:65530 int float ->",
        "82 arrayOf:65531 int double ->", "83 to:65536 int to:0 ->",
        "84 arrayOf:65532:65528 int int ->", "85 arrayOf:65529 int int ->", "86 arrayOf:65533 int int ->",
        "116 int -> int", "117 long -> long", "118 float -> float", "119 double -> double",
        "133 int -> long", "134 int -> float", "135 int -> double", "136 long -> int", "137 long -> float",
        "138 long -> double", "139 float -> int", "140 float -> long", "141 float -> double", "142 double -> int",
        "143 double -> long", "144 double -> float", "145-147 int -> int", "148 long long -> int",
        "149-150 float float -> int", "151-152 double double -> int",
        "153-158 int ->", "159-164 int int ->", "165-166 reference reference ->", "167 ->", "170-171 int ->",
        "190 array -> int", "194-195 reference ->", "198-199 reference ->",
    };

    private static final int[] OPERANDS_OF_18 = {0, 5, 65528, 65529, 65530, 65532, 65533, 65534, 65536, 131071, 16777215};

    private static void plainRules() {
        for (String line : PLAIN) {
            int space = line.indexOf(' ');
            String[] range = line.substring(0, space).split("-");
            int from = Integer.parseInt(range[0]);
            int upTo = Integer.parseInt(range[range.length - 1]);
            for (int op = from; op <= upTo; op++) {
                lookAtAll(rule(op, 0, 0, line.substring(space)));
            }
        }
        String[] four = {"int", "long", "float", "double"};
        for (int op = 96; op <= 115; op++) {
            String kind = four[op % 4];
            lookAtAll(rule(op, 0, 0, kind + " " + kind + " -> " + kind));
        }
        for (int op = 120; op <= 131; op++) {
            String kind = four[op % 2];
            lookAtAll(rule(op, 0, 0, kind + " " + (op < 126 ? "int" : kind) + " -> " + kind));
        }
        for (int number : new int[] {0, 127, -32768, Integer.MAX_VALUE}) {
            lookAtAll(rule(16, number, 0, "-> int"));
            lookAtAll(rule(17, number, 0, "-> int"));
        }
        for (int type : OPERANDS_OF_18) {
            lookAtAll(rule(18, type, 0, "-> " + left(type)));
        }
        lookAtAll(rule(20, 65535, 0, "-> long"));
        lookAtAll(rule(20, 65531, 0, "-> double"));
        for (int k = 0; k < 8; k++) {
            lookAtAll(rule(188, k, 0, "int -> " + (ARRAY + 65528 + k)));
        }
        for (int type : new int[] {0, 2, 5, 6, ARRAY + 5, ARRAY + 65535, 254 * ARRAY + 65534}) {
            lookAtAll(rule(189, type, 0, "int -> " + (ARRAY + type)));
            lookAtAll(rule(192, type, 0, "to:0 -> " + type));
            lookAtAll(rule(193, type, 0, "to:0 -> int"));
        }
        lookAtAll(rule(197, ARRAY + 65534, 1, "int -> " + (ARRAY + 65534)));
        lookAtAll(rule(197, 3 * ARRAY + 5, 1, "int -> " + (3 * ARRAY + 5)));
        lookAtAll(rule(197, 3 * ARRAY + 5, 2, "int int -> " + (3 * ARRAY + 5)));
        lookAtAll(rule(197, 3 * ARRAY + 65531, 3, "int int int -> " + (3 * ARRAY + 65531)));
    }

    /** The forms of 6.5, from below: a letter is one value, a small one of one place, a great one of two. */
    private static final String[][] FORMS = {
        {"a>"}, {"ba>", "A>"}, {"a>aa"}, {"ba>aba"}, {"cba>acba", "Ba>aBa"}, {"ba>baba", "A>AA"},
        {"cba>bacba", "bA>AbA"}, {"dcba>badcba", "cbA>AcbA", "Cba>baCba", "BA>ABA"}, {"ba>ab"},
    };
    private static final String[] MOVED = {"3", "9", "1", "18 5", "187 4", "25 0", "168", "14"};

    private static void shuffleRules() {
        for (int op = 87; op <= 95; op++) {
            lookAtMoved(op);
            for (String d : MOVED) {
                lookAtMoved(op, d);
                for (String c : MOVED) {
                    lookAtMoved(op, d, c);
                    for (String b : MOVED) {
                        lookAtMoved(op, d, c, b);
                        for (int k = 0; k < MOVED.length && op == 94; k++) {
                            lookAtMoved(op, d, c, b, MOVED[k]);
                        }
                    }
                }
            }
        }
    }

    private static void lookAtMoved(int op, String... kinds) {
        Told told = new Told();
        for (String kind : kinds) {
            told.push(kind);
        }
        String due = "refused";
        for (String form : FORMS[op - 87]) {
            String moved = moved(form, told.stack);
            due = moved == null ? due : moved;
        }
        Rule r = rule(op, 0, 0, "->");
        String what = op + " behind " + String.join("; ", kinds);
        Check.same(what, stackAfter(told, r, ROOM), due);
        if (!due.equals("refused")) {
            lookAtRoom(r, told, due, what);
        }
    }

    private static String moved(String form, List<Value> stack) {
        int mark = form.indexOf('>');
        int below = stack.size() - mark;
        if (below < 0) {
            return null;
        }
        for (int k = 0; k < mark; k++) {
            if (Character.isUpperCase(form.charAt(k)) != stack.get(below + k).isWide()) {
                return null;
            }
        }
        List<Value> after = new ArrayList<>(stack.subList(0, below));
        for (int k = mark + 1; k < form.length(); k++) {
            after.add(stack.get(below + form.indexOf(form.charAt(k))));
        }
        return textOf(after);
    }

    // ---- members

    private static final int[] TYPES = {0, 4, 5, 6, 2, 65528, 65530, 65531, 65534, 65535, 65540, 65542, 131070};

    private static void fieldRules() {
        for (int c : new int[] {0, 1, 2, 4, 5, 6}) {
            for (int type : TYPES) {
                fields = new int[][] {{0, 0}, {c, type}};
                calls = MOST_CALLS;
                String receiver = c == OWNER ? "toOrThis:" + c : "to:" + c;
                lookAtAll(rule(178, 1, 0, "-> " + left(type)));
                lookAtAll(rule(179, 1, 0, asked(type) + " ->"));
                lookAtAll(rule(180, 1, 0, "to:" + c + " -> " + left(type)));
                lookAtAll(rule(181, 1, 0, receiver + " " + asked(type) + " ->"));
            }
        }
        fields = new int[0][];
    }

    private static void invokeRules() {
        for (int c : new int[] {0, 1, 2, 4, 5, 6}) {
            for (int type : TYPES) {
                int result = type == 65528 ? -1 : type;
                shapes = new int[][] {{0, 0, 0}, {c, result, 0, type}, {c, result, 0}, {c, result, 0, 65534, type}};
                calls = MOST_CALLS;
                String leaves = " -> " + left(result);
                for (int op : new int[] {182, 185}) {
                    lookAtAll(rule(op, 1, 0, "to:" + c + " " + asked(type) + leaves));
                    lookAtAll(rule(op, 2, 0, "to:" + c + leaves));
                }
                for (int op : new int[] {184, 186}) {
                    lookAtAll(rule(op, 1, 0, asked(type) + leaves));
                    lookAtAll(rule(op, 2, 0, leaves));
                    lookAtAll(rule(op, 3, 0, "int " + asked(type) + leaves));
                }
            }
            lookAtAll(rule(182, 3, 0, "to:" + c + " int to:131070 -> 131070"));
        }
        shapes = new int[0][];
    }

    /** "of another SHAPE: the receiver may stand for the METHOD's CLASS, and the SHAPE's CLASS is that, one above it ..". */
    private static void specialRules() {
        shapes = new int[9][];
        for (int c = 0; c < 9; c++) {
            shapes[c] = new int[] {c, 65535, 0, 65534};
        }
        calls = MOST_CALLS;
        for (int c = 0; c < 9; c++) {
            boolean isAbove = c == 0 || c == 2 || c == 3 || c == OWNER || c == 6;
            if (isAbove) {
                lookAtAll(rule(183, c, 0, "to:" + OWNER + " int -> long"));
                continue;
            }
            for (String kind : KINDS) {
                Told told = new Told();
                told.push(kind);
                told.push("3");
                Check.same("183 of " + c, stackAfter(told, rule(183, c, 0, "->"), ROOM), "refused");
            }
        }
        shapes = new int[0][];
    }

    /** "the receiver is NEW of an INSTRUCTION with just the SHAPE's CLASS, or THIS .."; no other INSTRUCTION may. */
    private static void constructorRules() {
        int[] made = {0, 1, 4, 5, 7, 8};
        shapes = new int[made.length][];
        for (int k = 0; k < made.length; k++) {
            shapes[k] = new int[] {made[k], -1, 1, 65534};
        }
        calls = MOST_CALLS;
        for (int op = 182; op <= 186; op++) {
            for (int k = 0; k < made.length; k++) {
                for (String kind : KINDS) {
                    Told told = new Told();
                    told.push(kind);
                    told.push(kind.equals("187 4") || kind.equals("25 0") ? kind : "187 4");
                    told.push(kind);
                    told.push("3");
                    Value v = told.stack.get(2);
                    boolean isMade = v.kind == 'N' && v.type == made[k] || v.kind == 'T' && (made[k] == OWNER || made[k] == 0);
                    String due = "refused";
                    if (op == 183 && isMade) {
                        Value ref = new Value('R', OWNER, 16 * (v.kind == 'T' ? OWNER : made[k]) + 8);
                        due = "";
                        for (Value w : told.stack.subList(0, 2)) {
                            due += textOf(List.of(w.told == v.told ? ref : w));
                        }
                    }
                    Check.same(op + " of a constructor of " + made[k] + " by " + kind,
                        stackAfter(told, rule(op, k, 0, "->"), ROOM), due);
                }
            }
        }
        shapes = new int[0][];
    }

    // ---- ends

    private static int judged(Told told, int how, int result, int op) {
        fresh(4 + told.code.size());
        j.method(OWNER, how, result, 1, ROOM);
        for (int[] x : told.code) {
            j.put(x[0], x[1], x[2]);
        }
        j.put(op, 0, 0);
        return j.judge();
    }

    private static void returnRules() {
        int[] results = {-1, 0, 1, 2, 4, 5, 6, 65528, 65529, 65530, 65531, 65532, 65533, 65534, 65535, 65536, 65541, 131070};
        String[] due = {"int", "long", "float", "double", "to", ""};
        for (int result : results) {
            String asked = result < 0 ? "" : asked(result);
            for (int op = 172; op <= 177; op++) {
                boolean isDue = asked.split(":")[0].equals(due[op - 172]);
                Check.yes("result " + result + " by " + op + " with nothing", judged(new Told(), 0, result, op) > 0 == (isDue && op == 177));
                for (String kind : KINDS) {
                    if (kind.equals("25 0")) {
                        continue;
                    }
                    Told told = new Told();
                    told.push("14");
                    told.push(kind);
                    boolean may = isDue && (op == 177 || fits(asked, told.stack.get(1)));
                    Check.yes("result " + result + " by " + op + " of " + kind, judged(told, 0, result, op) > 0 == may);
                }
            }
        }
        Told told = new Told();
        Check.yes("a constructor's return", judged(told, 2, -1, 177) < 0);
        told.push("25 0");
        for (int op = 172; op <= 177; op++) {
            Check.yes("a constructor by " + op, judged(told, 2, -1, op) < 0);
        }
        Check.yes("THIS is not returned, this is", judged(told, 1, OWNER, 176) > 0);
    }

    private static void throwRules() {
        for (String kind : KINDS) {
            Told told = new Told();
            told.push("9");
            told.push(kind);
            Check.yes("athrow of " + kind, judged(told, 2, -1, 191) > 0 == fits("to:1", told.stack.get(1)));
        }
        Check.yes("athrow of nothing", judged(new Told(), 2, -1, 191) < 0);
    }

    // ---- locals

    private static final String LOADED = "ILFD";
    private static final int LOCALS = 7;

    private static int storeOf(Value v) {
        return v.kind == 'I' || v.isWide() || v.kind == 'F' ? 54 + LOADED.indexOf(v.kind) : 58;
    }

    /** Each load, iinc and ret, of a local of each kind, of the place behind it, and of one that nothing was stored in. */
    private static void loadRules() {
        for (String kind : KINDS) {
            for (int op : new int[] {21, 22, 23, 24, 25, 132, 169}) {
                for (int local = 1; local <= 3; local++) {
                    Told told = new Told();
                    told.push(kind);
                    Value v = told.stack.get(0);
                    boolean fits = op == 132 ? v.kind == 'I' : op == 25 ? fits("reference", v)
                        : op == 169 ? v.kind == 'A' : v.kind == LOADED.charAt(op - 21);
                    String due = local == 2 && fits ? op >= 132 ? "" : textOf(told.stack) : "refused";
                    Check.same(op + " of local " + local + " with " + kind, loaded(told, op, local), due);
                }
            }
        }
    }

    /** A jsr goes over the INSTRUCTION behind it, which ret comes back to; all go on to the last one of all. */
    private static String loaded(Told told, int op, int local) {
        int[] push = told.code.get(0);
        boolean isCall = push[0] == 168;
        fresh(20);
        j.method(OWNER, 2, -1, LOCALS, 2);
        j.put(push[0], isCall ? 2 : push[1], 0);
        j.put(isCall ? 167 : 0, isCall ? 5 : 0, 0);
        j.put(storeOf(told.stack.get(0)), 2, 0);
        j.put(op, local, 0);
        j.put(167, 5, 0);
        j.put(167, 5, 0);
        int count = j.judge();
        if (count < 0) {
            return "refused";
        }
        StringBuilder text = new StringBuilder();
        for (int k = 0; k < j.frame(count - 1, 2); k++) {
            text.append(' ').append(j.told(count - 1, LOCALS + k));
        }
        return text.toString();
    }

    /** Each store of each kind into each local, where others are that may be of two places. */
    private static void storeRules() {
        String[] before = {"", "3 1", "9 1", "9 2", "9 3", "9 1 14 3", "14 2 9 4", "9 3 9 5", "3 2 3 3 3 4", "9 2 3 4", "1 2 11 3"};
        for (String kind : KINDS) {
            for (String others : before) {
                for (int op = 54; op <= 58; op++) {
                    for (int local = 1; local <= 5; local++) {
                        lookAtStore(kind, others, op, local);
                    }
                }
            }
        }
    }

    private static void lookAtStore(String kind, String others, int op, int local) {
        Told told = new Told();
        int[] cells = new int[LOCALS];
        cells[0] = 6;
        String[] words = others.isEmpty() ? new String[0] : others.split(" ");
        for (int k = 0; k < words.length; k += 2) {
            told.push(words[k]);
            Value v = told.stack.remove(0);
            int n = Integer.parseInt(words[k + 1]);
            told.code.add(new int[] {storeOf(v), n, 0});
            cells[n] = v.told;
            if (v.isWide()) {
                cells[n + 1] = 7;
            }
        }
        told.push(kind);
        Value v = told.stack.get(0);
        String what = op + " " + local + " of " + kind + " over " + others;
        if (op != storeOf(v)) {
            Check.same(what, localsAfter(told, op, local), "refused");
            return;
        }
        int upTo = v.isWide() ? local + 2 : local + 1;
        if (cells[local] == 7) {
            cells[local - 1] = 0;
        }
        if (upTo < LOCALS && cells[upTo] == 7) {
            cells[upTo] = 0;
        }
        cells[local] = v.told;
        if (v.isWide()) {
            cells[local + 1] = 7;
        }
        StringBuilder due = new StringBuilder();
        for (int cell : cells) {
            due.append(' ').append(cell);
        }
        Check.same(what, localsAfter(told, op, local), due.toString());
    }

    private static String localsAfter(Told told, int op, int local) {
        int end = told.code.size() + 2;
        fresh(30);
        j.method(OWNER, 2, -1, LOCALS, 2);
        tell(told, op, local, 0, end);
        j.put(167, end, 0);
        j.put(1, 0, 0);
        j.put(191, 0, 0);
        int count = j.judge();
        if (count < 0) {
            return "refused";
        }
        StringBuilder text = new StringBuilder();
        for (int k = 0; k < LOCALS; k++) {
            text.append(' ').append(j.told(count - 1, k));
        }
        return text.toString();
    }
}
