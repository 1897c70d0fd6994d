import java.util.ArrayList;
import java.util.List;
import java.util.Map;
import java.util.TreeMap;

/**
 * The document once more, in another and slower way, for tests that compare: places are texts, all
 * FRAMES are followed again and again until none changes, and nothing is remembered between rounds.
 */
final class NaiveJudge {
    static final class Refused extends RuntimeException {
        private static final long serialVersionUID = 1L;
        final int at;

        Refused(int at, String why) {
            super(why);
            this.at = at;
        }
    }

    static final class Klass {
        final int up;
        final boolean isInterface;

        Klass(int up, boolean isInterface) {
            this.up = up;
            this.isInterface = isInterface;
        }
    }

    static final class Shape {
        final int c;
        final int result;
        final boolean constructor;
        final List<Integer> takes = new ArrayList<>();

        Shape(int c, int result, boolean constructor) {
            this.c = c;
            this.result = result;
            this.constructor = constructor;
        }
    }

    static final class Instruction {
        final int op;
        final int a;
        final int b;
        final List<Integer> to = new ArrayList<>();

        Instruction(int op, int a, int b) {
            this.op = op;
            this.a = a;
            this.b = b;
        }
    }

    /** What is there: texts "-", I, F, L, D, null, this, ~ (behind), R:type, N:instruction, A:address. */
    static final class State {
        final List<String> locals = new ArrayList<>();
        final List<String> stack = new ArrayList<>();
        boolean made;

        State copy() {
            State s = new State();
            s.locals.addAll(locals);
            s.stack.addAll(stack);
            s.made = made;
            return s;
        }

        @Override
        public String toString() {
            return locals + " " + stack + " " + made;
        }
    }

    static final class Key implements Comparable<Key> {
        final int at;
        final List<Integer> context;

        Key(int at, List<Integer> context) {
            this.at = at;
            this.context = context;
        }

        @Override
        public int compareTo(Key other) {
            if (at != other.at) {
                return Integer.compare(at, other.at);
            }
            for (int k = 0; k < context.size() && k < other.context.size(); k++) {
                if (!context.get(k).equals(other.context.get(k))) {
                    return Integer.compare(context.get(k), other.context.get(k));
                }
            }
            return Integer.compare(context.size(), other.context.size());
        }
    }

    final List<Klass> classes = new ArrayList<>();
    final List<int[]> fields = new ArrayList<>();
    final List<Shape> shapes = new ArrayList<>();
    int owner = 0;
    int how = 0;
    int result = -1;
    int localCount = 0;
    int stackCount = 0;
    final List<Integer> arguments = new ArrayList<>();
    final List<Instruction> code = new ArrayList<>();
    final List<int[]> rows = new ArrayList<>();
    Map<Key, State> frames = new TreeMap<>();
    private boolean changed;
    private boolean last;
    private int now;
    String whyRefused = "";
    int refusedAt = -1;

    NaiveJudge() {
        classes.add(new Klass(-1, false));
        classes.add(new Klass(0, false));
        classes.add(new Klass(0, true));
        classes.add(new Klass(0, true));
    }

    void method(int c, int newHow, int newResult, int locals, int stack) {
        owner = c;
        how = newHow;
        result = newResult;
        localCount = locals;
        stackCount = stack;
        arguments.clear();
        code.clear();
        rows.clear();
    }

    // ---- TYPES

    static int dims(int t) {
        return t / 65536;
    }

    static int element(int t) {
        return t % 65536;
    }

    static boolean primitive(int t) {
        return dims(t) == 0 && element(t) >= 65528;
    }

    /** What is next above a TYPE, if all arrays of what is above are thought of as a tree; -1 above Object. */
    private int next(int t) {
        int d = dims(t);
        int e = element(t);
        if (e >= 65528) {
            return (d - 1) * 65536;
        }
        if (e != 0) {
            return d * 65536 + (classes.get(e).isInterface ? 0 : classes.get(e).up);
        }
        return d == 0 ? -1 : (d - 1) * 65536;
    }

    int common(int s, int t) {
        List<Integer> all = new ArrayList<>();
        for (int x = s; x >= 0; x = next(x)) {
            all.add(x);
        }
        int y = t;
        while (!all.contains(y)) {
            y = next(y);
        }
        return y;
    }

    boolean stands(int s, int t) {
        if (s == t) {
            return true;
        }
        if (primitive(s) || primitive(t)) {
            return false;
        }
        if (dims(t) == 0) {
            if (dims(s) > 0) {
                return t == 0 || t == 2 || t == 3;
            }
            if (t == 0 || classes.get(t).isInterface) {
                return true;
            }
            for (int x = classes.get(s).up; x >= 0; x = classes.get(x).up) {
                if (x == t) {
                    return true;
                }
            }
            return false;
        }
        if (dims(s) == dims(t)) {
            return element(s) < 65528 && element(t) < 65528 && stands(element(s), element(t));
        }
        return dims(s) > dims(t) && (element(t) == 0 || element(t) == 2 || element(t) == 3);
    }

    static String place(int t) {
        switch (t) {
            case 65528: case 65529: case 65532: case 65533: case 65534:
                return "I";
            case 65530:
                return "F";
            case 65531:
                return "D";
            case 65535:
                return "L";
            default:
                return "R:" + t;
        }
    }

    static int told(String v) {
        switch (v) {
            case "-": return 0;
            case "I": return 1;
            case "F": return 2;
            case "L": return 3;
            case "D": return 4;
            case "null": return 5;
            case "this": return 6;
            case "~": return 7;
            default:
                int n = Integer.parseInt(v.substring(2));
                return 16 * n + (v.charAt(0) == 'R' ? 8 : v.charAt(0) == 'N' ? 9 : 10);
        }
    }

    // ---- JUDGED

    int judge() {
        frames = new TreeMap<>();
        try {
            first();
            flow();
        } catch (Refused e) {
            whyRefused = e.getMessage();
            refusedAt = e.at;
            frames = new TreeMap<>();
            return -1;
        }
        return frames.size();
    }

    private void first() {
        if (code.isEmpty()) {
            throw new Refused(-1, "no code");
        }
        int places = how == 0 ? 0 : 1;
        for (int t : arguments) {
            places += place(t).equals("L") || place(t).equals("D") ? 2 : 1;
        }
        if (places > localCount) {
            throw new Refused(-1, "arguments");
        }
        for (int i = 0; i < code.size(); i++) {
            Instruction x = code.get(i);
            boolean wide = x.op == 22 || x.op == 24 || x.op == 55 || x.op == 57;
            boolean local = x.op >= 21 && x.op <= 25 || x.op >= 54 && x.op <= 58 || x.op == 132 || x.op == 169;
            if (local && (long) x.a + (wide ? 1 : 0) >= localCount) {
                throw new Refused(i, "no such local");
            }
            if (jumps(x.op) && x.a >= code.size()) {
                throw new Refused(i, "jumps out");
            }
            if (x.op == 170 || x.op == 171) {
                if (x.to.isEmpty()) {
                    throw new Refused(i, "no TARGETS");
                }
                for (int k : x.to) {
                    if (k >= code.size()) {
                        throw new Refused(i, "switches out");
                    }
                }
            }
        }
        for (int[] r : rows) {
            if (r[0] >= code.size() || r[1] > code.size() || r[2] >= code.size() || r[0] >= r[1]) {
                throw new Refused(-1, "row");
            }
        }
    }

    static boolean jumps(int op) {
        return op >= 153 && op <= 168 || op == 198 || op == 199;
    }

    private boolean isTarget(int i) {
        if (i == 0 || code.get(i - 1).op == 168) {
            return true;
        }
        for (Instruction x : code) {
            if (jumps(x.op) && x.a == i || x.to.contains(i)) {
                return true;
            }
        }
        for (int[] r : rows) {
            if (r[2] == i) {
                return true;
            }
        }
        return false;
    }

    private void flow() {
        State s = new State();
        for (int k = 0; k < localCount; k++) {
            s.locals.add("-");
        }
        int n = 0;
        if (how != 0) {
            s.locals.set(n++, how == 2 && owner != 0 ? "this" : "R:" + owner);
            s.made = how == 2 && owner == 0;
        }
        for (int t : arguments) {
            s.locals.set(n++, place(t));
            if (place(t).equals("L") || place(t).equals("D")) {
                s.locals.set(n++, "~");
            }
        }
        last = false;
        comeTo(0, new ArrayList<>(), s);
        do {
            changed = false;
            for (Key key : new ArrayList<>(frames.keySet())) {
                follow(key);
            }
        } while (changed);
        last = true;
        for (Key key : new ArrayList<>(frames.keySet())) {
            follow(key);
        }
        if (changed) {
            throw new IllegalStateException("not in the end yet");
        }
    }

    private void comeTo(int at, List<Integer> context, State s) {
        Key key = new Key(at, context);
        State old = frames.get(key);
        if (old == null) {
            frames.put(key, s.copy());
            changed = true;
            if (frames.size() * (localCount + stackCount + 1) > 20000) {
                throw new Refused(now, "words");
            }
            return;
        }
        State both = new State();
        both.made = old.made && s.made;
        if (old.stack.size() != s.stack.size()) {
            throw new Refused(now, "heights to " + at);
        }
        for (int k = 0; k < localCount; k++) {
            both.locals.add(meet(old.locals.get(k), s.locals.get(k)));
        }
        for (int k = 0; k < localCount; k++) {
            String v = both.locals.get(k);
            if (v.equals("~") && !wide(both.locals.get(k - 1))) {
                both.locals.set(k, "-");
            }
            if (wide(v) && !both.locals.get(k + 1).equals("~")) {
                both.locals.set(k, "-");
            }
        }
        for (int k = 0; k < s.stack.size(); k++) {
            String v = meet(old.stack.get(k), s.stack.get(k));
            if (v.equals("-")) {
                throw new Refused(now, "stack to " + at);
            }
            both.stack.add(v);
        }
        if (!both.toString().equals(old.toString())) {
            frames.put(key, both);
            changed = true;
        }
    }

    private static boolean wide(String v) {
        return v.equals("L") || v.equals("D");
    }

    private String meet(String v, String w) {
        if (v.equals(w)) {
            return v;
        }
        if (v.equals("null") && w.startsWith("R:")) {
            return w;
        }
        if (w.equals("null") && v.startsWith("R:")) {
            return v;
        }
        if (v.startsWith("R:") && w.startsWith("R:")) {
            return "R:" + common(type(v), type(w));
        }
        return "-";
    }

    private static int type(String v) {
        return Integer.parseInt(v.substring(2));
    }

    private void follow(Key key) {
        State s = frames.get(key).copy();
        int i = key.at;
        while (true) {
            now = i;
            for (int[] r : rows) {
                if (r[0] <= i && i < r[1]) {
                    int caught = r[3] < 0 ? 1 : r[3];
                    if (stackCount < 1 || !stands(caught, 1)) {
                        throw new Refused(i, "handler");
                    }
                    State h = s.copy();
                    h.stack.clear();
                    h.stack.add("R:" + caught);
                    comeTo(r[2], key.context, h);
                }
            }
            Instruction x = code.get(i);
            step(s, i, x);
            if (s.stack.size() > stackCount) {
                throw new Refused(i, "overflow");
            }
            if (x.op == 169) {
                String v = s.locals.get(x.a);
                int k = v.startsWith("A:") ? key.context.indexOf(type(v)) : -1;
                if (k < 0) {
                    throw new Refused(i, "ret");
                }
                comeTo(type(v), new ArrayList<>(key.context.subList(0, k)), s);
                return;
            }
            if (x.op == 168) {
                List<Integer> more = new ArrayList<>(key.context);
                more.add(i + 1);
                if (key.context.contains(i + 1) || more.size() > 16 || i + 1 >= code.size()) {
                    throw new Refused(i, "jsr");
                }
                comeTo(x.a, more, s);
                return;
            }
            if (jumps(x.op)) {
                comeTo(x.a, key.context, s);
            }
            for (int k : x.to) {
                comeTo(k, key.context, s);
            }
            if (x.op == 167 || x.op >= 169 && x.op <= 177 || x.op == 191) {
                return;
            }
            i++;
            if (i >= code.size()) {
                throw new Refused(i - 1, "end");
            }
            if (isTarget(i)) {
                comeTo(i, key.context, s);
                return;
            }
        }
    }

    // ---- what an INSTRUCTION does

    private static final String[] PLAIN = {
        "0 >", "1 >null", "2-8 >I", "9-10 >L", "11-13 >F", "14-15 >D", "16-17 >I",
        "96 II>I", "97 LL>L", "98 FF>F", "99 DD>D", "100 II>I", "101 LL>L", "102 FF>F", "103 DD>D",
        "104 II>I", "105 LL>L", "106 FF>F", "107 DD>D", "108 II>I", "109 LL>L", "110 FF>F", "111 DD>D",
        "112 II>I", "113 LL>L", "114 FF>F", "115 DD>D", "116 I>I", "117 L>L", "118 F>F", "119 D>D",
        "120 II>I", "121 LI>L", "122 II>I", "123 LI>L", "124 II>I", "125 LI>L",
        "126 II>I", "127 LL>L", "128 II>I", "129 LL>L", "130 II>I", "131 LL>L",
        "133 I>L", "134 I>F", "135 I>D", "136 L>I", "137 L>F", "138 L>D", "139 F>I", "140 F>L", "141 F>D",
        "142 D>I", "143 D>L", "144 D>F", "145-147 I>I", "148 LL>I", "149-150 FF>I", "151-152 DD>I",
        "153-158 I>", "159-164 II>", "165-166 AA>", "167 >", "170-171 I>", "190 a>I", "194-195 A>", "198-199 A>",
        "46 1I>I", "47 2I>L", "48 3I>F", "49 4I>D", "51 5I>I", "52 6I>I", "53 7I>I",
        "79 1II>", "80 2IL>", "81 3IF>", "82 4ID>", "84 5II>", "85 6II>", "86 7II>",
        "83 oIO>", "191 T>", "193 O>I", "169 >",
    };

    private static String plainOf(int op) {
        for (String line : PLAIN) {
            String[] two = line.split(" ");
            String[] range = two[0].split("-");
            int from = Integer.parseInt(range[0]);
            int upTo = range.length > 1 ? Integer.parseInt(range[1]) : from;
            if (from <= op && op <= upTo) {
                return two[1];
            }
        }
        return null;
    }

    private static final Map<Integer, String> PLAINS = new TreeMap<>();

    static {
        for (int op = 0; op < 200; op++) {
            String plain = plainOf(op);
            if (plain != null) {
                PLAINS.put(op, plain);
            }
        }
    }

    private String pop(State s) {
        if (s.stack.isEmpty()) {
            throw new Refused(now, "underflow");
        }
        return s.stack.remove(s.stack.size() - 1);
    }

    private void popExactly(State s, String v) {
        if (wide(v) && !pop(s).equals("~") || !pop(s).equals(v)) {
            throw new Refused(now, "no " + v);
        }
    }

    private void push(State s, String v) {
        s.stack.add(v);
        if (wide(v)) {
            s.stack.add("~");
        }
    }

    private void popType(State s, int t) {
        String v = place(t);
        if (!v.startsWith("R:")) {
            popExactly(s, v);
            return;
        }
        String w = pop(s);
        if (w.equals("null")) {
            return;
        }
        if (!w.startsWith("R:")) {
            throw new Refused(now, "no reference " + w);
        }
        if (!stands(type(w), t)) {
            boolean couldYet = dims(type(w)) > 0 && element(t) < 65528 && classes.get(element(t)).isInterface
                && stands(type(w), dims(t) * 65536);
            if (last || !couldYet) {
                throw new Refused(now, w + " for " + t);
            }
        }
    }

    private void popAny(State s) {
        String v = pop(s);
        if (!(v.equals("null") || v.equals("this") || v.startsWith("R:") || v.startsWith("N:"))) {
            throw new Refused(now, "no reference " + v);
        }
    }

    private static final int[] ELEMENTS = {0, 65534, 65535, 65530, 65531, 65532, 65529, 65533};

    private void take(State s, char kind) {
        switch (kind) {
            case 'I': case 'F': case 'L': case 'D':
                popExactly(s, String.valueOf(kind));
                break;
            case 'A':
                popAny(s);
                break;
            case 'O':
                popType(s, 0);
                break;
            case 'T':
                popType(s, 1);
                break;
            case 'o':
                popType(s, 65536);
                break;
            case 'a': {
                String v = pop(s);
                if (!v.equals("null") && !(v.startsWith("R:") && dims(type(v)) > 0)) {
                    throw new Refused(now, "no array " + v);
                }
                break;
            }
            default: {
                String v = pop(s);
                int e = ELEMENTS[kind - '0'];
                boolean fits = v.equals("null") || v.equals("R:" + (65536 + e))
                    || e == 65532 && v.equals("R:" + (65536 + 65528));
                if (!fits) {
                    throw new Refused(now, "no array of " + e);
                }
            }
        }
    }

    private void setLocal(State s, int n, String v) {
        int width = wide(v) ? 2 : 1;
        for (int k = n; k < n + width; k++) {
            if (wide(s.locals.get(k))) {
                s.locals.set(k + 1, "-");
            }
            if (s.locals.get(k).equals("~")) {
                s.locals.set(k - 1, "-");
            }
            s.locals.set(k, "-");
        }
        s.locals.set(n, v);
        if (width == 2) {
            s.locals.set(n + 1, "~");
        }
    }

    private void step(State s, int i, Instruction x) {
        String plain = PLAINS.get(x.op);
        if (plain != null) {
            String[] two = plain.split(">", -1);
            for (int k = two[0].length() - 1; k >= 0; k--) {
                take(s, two[0].charAt(k));
            }
            if (!two[1].isEmpty()) {
                push(s, two[1]);
            }
            return;
        }
        switch (x.op) {
            case 18: case 20:
                push(s, place(x.a));
                break;
            case 21: case 22: case 23: case 24: {
                String v = String.valueOf("ILFD".charAt(x.op - 21));
                if (!s.locals.get(x.a).equals(v)) {
                    throw new Refused(i, "local is no " + v);
                }
                push(s, v);
                break;
            }
            case 25: {
                push(s, s.locals.get(x.a));
                popAny(s);
                push(s, s.locals.get(x.a));
                break;
            }
            case 50: {
                popExactly(s, "I");
                String v = pop(s);
                if (v.equals("null")) {
                    push(s, "null");
                } else if (v.startsWith("R:") && dims(type(v)) > 0 && !primitive(type(v) - 65536)) {
                    push(s, "R:" + (type(v) - 65536));
                } else {
                    throw new Refused(i, "aaload of " + v);
                }
                break;
            }
            case 54: case 55: case 56: case 57: {
                String v = String.valueOf("ILFD".charAt(x.op - 54));
                popExactly(s, v);
                setLocal(s, x.a, v);
                break;
            }
            case 58: {
                String v = pop(s);
                if (!v.startsWith("A:")) {
                    push(s, v);
                    popAny(s);
                }
                setLocal(s, x.a, v);
                break;
            }
            case 87: case 88: case 89: case 90: case 91: case 92: case 93: case 94: case 95:
                shuffle(s, x.op);
                break;
            case 132:
                if (!s.locals.get(x.a).equals("I")) {
                    throw new Refused(i, "iinc");
                }
                break;
            case 168:
                push(s, "A:" + (i + 1));
                break;
            case 172: case 173: case 174: case 175: case 176: case 177:
                leave(s, x.op);
                break;
            case 178:
                push(s, place(fields.get(x.a)[1]));
                break;
            case 179:
                popType(s, fields.get(x.a)[1]);
                break;
            case 180:
                popType(s, fields.get(x.a)[0]);
                push(s, place(fields.get(x.a)[1]));
                break;
            case 181: {
                popType(s, fields.get(x.a)[1]);
                String v = pop(s);
                if (!v.equals("this") || fields.get(x.a)[0] != owner) {
                    s.stack.add(v);
                    popType(s, fields.get(x.a)[0]);
                }
                break;
            }
            case 182: case 183: case 184: case 185: case 186:
                invoke(s, x.op, shapes.get(x.a));
                break;
            case 187:
                if (s.stack.contains("N:" + i)) {
                    throw new Refused(i, "NEW on the stack");
                }
                s.locals.replaceAll(v -> v.equals("N:" + i) ? "-" : v);
                push(s, "N:" + i);
                break;
            case 188:
                popExactly(s, "I");
                push(s, "R:" + (65536 + 65528 + x.a));
                break;
            case 189:
                popExactly(s, "I");
                push(s, "R:" + (65536 + x.a));
                break;
            case 192:
                popType(s, 0);
                push(s, "R:" + x.a);
                break;
            case 197:
                for (int k = 0; k < x.b; k++) {
                    popExactly(s, "I");
                }
                push(s, "R:" + x.a);
                break;
            default:
                throw new IllegalStateException("opcode " + x.op);
        }
    }

    /** The forms of 6.5: one letter a value, from below, 1 of one place and 2 of two. */
    private void shuffle(State s, int op) {
        String[] forms;
        switch (op) {
            case 87: forms = new String[] {"a1>"}; break;
            case 88: forms = new String[] {"a1b1>", "a2>"}; break;
            case 89: forms = new String[] {"a1>aa"}; break;
            case 90: forms = new String[] {"b1a1>aba"}; break;
            case 91: forms = new String[] {"c1b1a1>acba", "b2a1>aba"}; break;
            case 92: forms = new String[] {"b1a1>baba", "a2>aa"}; break;
            case 93: forms = new String[] {"c1b1a1>bacba", "b1a2>aba"}; break;
            case 94: forms = new String[] {"d1c1b1a1>badcba", "c1b1a2>acba", "c2b1a1>bacba", "b2a2>aba"}; break;
            default: forms = new String[] {"b1a1>ab"}; break;
        }
        for (String form : forms) {
            String[] two = form.split(">", -1);
            List<String> stack = new ArrayList<>(s.stack);
            Map<Character, String> named = new TreeMap<>();
            boolean fits = true;
            for (int k = two[0].length() - 2; k >= 0 && fits; k -= 2) {
                boolean needsWide = two[0].charAt(k + 1) == '2';
                fits = stack.size() >= (needsWide ? 2 : 1);
                if (fits) {
                    String v = stack.remove(stack.size() - 1);
                    fits = v.equals("~") == needsWide;
                    if (fits && needsWide) {
                        v = stack.remove(stack.size() - 1);
                    }
                    named.put(two[0].charAt(k), v);
                }
            }
            if (fits) {
                s.stack.clear();
                s.stack.addAll(stack);
                for (char c : two[1].toCharArray()) {
                    push(s, named.get(c));
                }
                return;
            }
        }
        throw new Refused(now, "no form of " + op);
    }

    private void leave(State s, int op) {
        String due = result < 0 ? "" : place(result).substring(0, 1);
        if (!due.equals(op == 177 ? "" : String.valueOf("ILFDR".charAt(op - 172)))) {
            throw new Refused(now, "another return");
        }
        if (op != 177) {
            popType(s, result);
        } else if (how == 2 && !s.made) {
            throw new Refused(now, "THIS was not made");
        }
    }

    private void invoke(State s, int op, Shape shape) {
        for (int k = shape.takes.size() - 1; k >= 0; k--) {
            popType(s, shape.takes.get(k));
        }
        if (shape.constructor) {
            if (op != 183) {
                throw new Refused(now, "constructor by " + op);
            }
            String v = pop(s);
            String w;
            if (v.startsWith("N:") && code.get(type(v)).a == shape.c) {
                w = "R:" + shape.c;
            } else if (v.equals("this") && (shape.c == owner || shape.c == classes.get(owner).up)) {
                w = "R:" + owner;
                s.made = true;
            } else {
                throw new Refused(now, "constructor of " + v);
            }
            s.locals.replaceAll(x -> x.equals(v) ? w : x);
            s.stack.replaceAll(x -> x.equals(v) ? w : x);
            return;
        }
        if (op == 182 || op == 185) {
            popType(s, shape.c);
        }
        if (op == 183) {
            popType(s, owner);
            if (!stands(owner, shape.c)) {
                throw new Refused(now, "special of another CLASS");
            }
        }
        if (shape.result >= 0) {
            push(s, place(shape.result));
        }
    }

    String told() {
        StringBuilder text = new StringBuilder();
        for (Map.Entry<Key, State> e : frames.entrySet()) {
            text.append(text.length() > 0 ? " " : "").append(e.getKey().at).append('(');
            for (int k = 0; k < e.getKey().context.size(); k++) {
                text.append(k > 0 ? "," : "").append(e.getKey().context.get(k));
            }
            text.append(")[");
            for (int k = 0; k < localCount; k++) {
                text.append(k > 0 ? "," : "").append(told(e.getValue().locals.get(k)));
            }
            for (int k = 0; k < e.getValue().stack.size(); k++) {
                text.append(k > 0 ? "," : "|").append(told(e.getValue().stack.get(k)));
            }
            text.append(']').append(e.getValue().made ? "!" : "");
        }
        return text.toString();
    }

    long digest() {
        long h = 7;
        for (Map.Entry<Key, State> e : frames.entrySet()) {
            State s = e.getValue();
            h = 31 * h + e.getKey().at;
            h = 31 * h + e.getKey().context.size();
            h = 31 * h + s.stack.size();
            h = 31 * h + (s.made ? 1 : 0);
            for (String v : s.locals) {
                h = 31 * h + told(v);
            }
            for (String v : s.stack) {
                h = 31 * h + told(v);
            }
        }
        return h;
    }
}
