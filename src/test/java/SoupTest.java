import java.util.Random;

/**
 * All promises at once: some hundreds of calls of all kinds by chance (always the same ones), with numbers that are
 * often just inside or just outside of what there is, against a model that is told the same.
 */
public final class SoupTest {
    private static final int[] EDGES = {
        Integer.MIN_VALUE, -65536, -2, -1, 0, 1, 2, 3, 4, 5, 7, 8, 19, 20, 21, 49, 50, 51, 99, 100, 101, 199, 200, 201, 999,
        1000, 65527, 65528, 65530, 65531, 65532, 65534, 65535, 65536, 65537, 65540, 131063, 131064, 131070, 131071, 131072,
        196606, 254 * 65536, 255 * 65536, 255 * 65536 + 65534, 255 * 65536 + 65535, 256 * 65536, 256 * 65536 + 65535,
        Integer.MAX_VALUE,
    };
    /** What each opcode has: see isAsTold. */
    private static final String KINDS = "nnnnnnnnnnnnnnnn" + "##1-2" + "lllll" + "--------------------" + "nnnnnnnn"
        + "lllll" + "--------------------" + "n".repeat(53) + "i" + "n".repeat(20) + "j".repeat(16) + "l" + "nn"
        + "nnnnnn" + "ffff" + "mmmmm" + "cpannttnn-djj";
    private static long kept = 0;
    private static long thrown = 0;

    private final Random random;
    private final FlowJudge j = new FlowJudge();
    private final NaiveJudge model = new NaiveJudge();
    private final String name;

    private SoupTest(long seed) {
        random = new Random(seed);
        name = "soup " + seed;
    }

    public static void main(String[] args) {
        int from = args.length > 0 ? Integer.parseInt(args[0]) : 0;
        int upTo = args.length > 1 ? Integer.parseInt(args[1]) : 1500;
        Check.same("KINDS of all opcodes", KINDS.length(), 200);
        for (int seed = from; seed < upTo; seed++) {
            new SoupTest(seed).run();
        }
        System.out.println("SoupTest: " + kept + " METHODS kept, " + thrown + " calls threw");
        Check.yes("many are kept", kept > (upTo - from) / 2);
        Check.yes("many throw", thrown > 10 * (upTo - from));
        Check.end("SoupTest");
    }

    private int below(int n) {
        return random.nextInt(n);
    }

    private int edge() {
        return EDGES[below(EDGES.length)];
    }

    /** Mostly a number below n, else one just outside, else anything. */
    private int about(int n) {
        int k = below(24);
        if (k == 0) {
            return edge();
        }
        return k == 1 ? n : k == 2 ? -1 : n <= 0 ? 0 : below(n);
    }

    private int type() {
        int k = below(12);
        if (k == 0) {
            return edge();
        }
        int element = k < 5 ? 65528 + below(8) : about(model.classes.size());
        return k % 3 == 0 ? element + 65536 * (1 + below(2)) : element;
    }

    private int result() {
        return below(2) == 0 ? -1 : type();
    }

    private void run() {
        int early = 40 + below(60);
        for (int k = 0; k < 400; k++) {
            if (k < early) {
                tellClasses();
            } else {
                tellMethods();
            }
        }
    }

    private void tellClasses() {
        switch (below(4)) {
            case 0:
                add(about(model.classes.size()), below(3) == 0);
                break;
            case 1:
                field(about(model.classes.size()), type());
                break;
            case 2:
                shape(about(model.classes.size()), result(), below(2) == 0);
                break;
            default:
                takes(type());
        }
    }

    private void tellMethods() {
        int k = below(200);
        if (k < 3) {
            tellClasses();
        } else if (k < 12) {
            int places = below(10) == 0 ? edge() : 3 + below(6);
            int constructor = below(3);
            method(about(model.classes.size()), below(20) == 0 ? edge() : constructor, constructor == 2 ? -1 : result(),
                places, below(10) == 0 ? edge() : 2 + below(6));
        } else if (k < 15) {
            argument(type());
        } else if (k < 18) {
            int n = model.code.size();
            row(about(n), about(n + 1), about(n), below(2) == 0 ? -1 : about(model.classes.size()));
        } else if (k < 25) {
            to(about(model.code.size()));
        } else if (k < 40) {
            end();
        } else if (k < 60) {
            judge();
        } else if (k < 65) {
            ask();
        } else {
            putSome();
        }
    }

    // ---- calls, each with what is due

    private interface Call {
        long made();
    }

    private static final long IAE = Long.MIN_VALUE;
    private static final long ISE = Long.MIN_VALUE + 1;

    private boolean due(String call, long due, Call made) {
        long got;
        try {
            got = made.made();
        } catch (IllegalArgumentException e) {
            got = IAE;
        } catch (IllegalStateException e) {
            got = ISE;
        }
        Check.same(name + ": " + call, got, due);
        thrown += due == IAE || due == ISE ? 1 : 0;
        return due != IAE && due != ISE;
    }

    private boolean isClass(int c) {
        return c >= 0 && c < model.classes.size();
    }

    private boolean isInterface(int c) {
        return model.classes.get(c).isInterface;
    }

    private boolean isType(int t) {
        return t >= 0 && t < 256 * 65536 && (t % 65536 >= 65528 || isClass(t % 65536));
    }

    private boolean isReference(int t) {
        return isType(t) && !NaiveJudge.primitive(t);
    }

    private boolean isWide(int t) {
        return t == 65535 || t == 65531;
    }

    private void add(int up, boolean isInterface) {
        boolean fits = isClass(up) && !isInterface(up) && (up == 0 || !isInterface);
        int n = model.classes.size();
        if (due("add " + up, !fits ? IAE : n >= 200 ? ISE : n, () -> j.add(up, isInterface))) {
            model.classes.add(new NaiveJudge.Klass(up, isInterface));
        }
    }

    private void field(int c, int type) {
        int n = model.fields.size();
        if (due("field " + c + " " + type, !isClass(c) || !isType(type) ? IAE : n >= 100 ? ISE : n, () -> j.field(c, type))) {
            model.fields.add(new int[] {c, type});
        }
    }

    private void shape(int c, int result, boolean constructor) {
        boolean fits = isClass(c) && (result == -1 || isType(result)) && (!constructor || result == -1 && !isInterface(c));
        int n = model.shapes.size();
        if (due("shape " + c + " " + result, !fits ? IAE : n >= 100 ? ISE : n, () -> j.shape(c, result, constructor))) {
            model.shapes.add(new NaiveJudge.Shape(c, result, constructor));
        }
    }

    private void takes(int type) {
        int last = model.shapes.size() - 1;
        int n = last < 0 ? 20 : model.shapes.get(last).takes.size();
        if (due("takes " + type, !isType(type) ? IAE : n >= 20 ? ISE : n + 1, () -> j.takes(type))) {
            model.shapes.get(last).takes.add(type);
        }
    }

    private void method(int c, int how, int result, int locals, int stack) {
        boolean fits = isClass(c) && how >= 0 && how <= 2 && (result == -1 || isType(result))
            && (how != 2 || result == -1 && !isInterface(c)) && locals >= 0 && locals <= 200 && stack >= 0 && stack <= 200;
        String call = "method " + c + " " + how + " " + result + " " + locals + " " + stack;
        if (due(call, fits ? 0 : IAE, () -> j.method(c, how, result, locals, stack))) {
            model.method(c, how, result, locals, stack);
        }
    }

    private void argument(int type) {
        int n = model.arguments.size();
        if (due("argument " + type, !isType(type) ? IAE : n >= 20 ? ISE : n + 1, () -> j.argument(type))) {
            model.arguments.add(type);
        }
    }

    private boolean isAsTold(int op, int a, int b) {
        switch (op < 0 || op >= 200 ? '-' : KINDS.charAt(op)) {
            case 'n': return a == 0 && b == 0;
            case '#': return b == 0;
            case '1': return isType(a) && !isWide(a) && b == 0;
            case '2': return isWide(a) && b == 0;
            case 'l': case 'j': return a >= 0 && b == 0;
            case 'i': return a >= 0;
            case 'f': return a >= 0 && a < model.fields.size() && b == 0;
            case 'm': return a >= 0 && a < model.shapes.size() && b == 0;
            case 'c': return isClass(a) && b == 0;
            case 'p': return a >= 0 && a < 8 && b == 0;
            case 'a': return isReference(a) && a < 255 * 65536 && b == 0;
            case 't': return isReference(a) && b == 0;
            case 'd': return isReference(a) && b >= 1 && b <= a / 65536;
            default: return false;
        }
    }

    private void put(int op, int a, int b) {
        int n = model.code.size();
        if (due("put " + op + " " + a + " " + b, !isAsTold(op, a, b) ? IAE : n >= 1000 ? ISE : n, () -> j.put(op, a, b))) {
            model.code.add(new NaiveJudge.Instruction(op, a, b));
        }
    }

    private void to(int k) {
        int last = model.code.size() - 1;
        boolean isSwitch = last >= 0 && (model.code.get(last).op == 170 || model.code.get(last).op == 171);
        int n = isSwitch ? model.code.get(last).to.size() : 50;
        if (due("to " + k, k < 0 ? IAE : n >= 50 ? ISE : n + 1, () -> j.to(k))) {
            model.code.get(last).to.add(k);
        }
    }

    private void row(int from, int upTo, int handler, int type) {
        boolean fits = from >= 0 && upTo >= 0 && handler >= 0 && (type == -1 || isClass(type));
        int n = model.rows.size();
        String call = "row " + from + " " + upTo + " " + handler + " " + type;
        if (due(call, !fits ? IAE : n >= 50 ? ISE : n + 1, () -> j.row(from, upTo, handler, type))) {
            model.rows.add(new int[] {from, upTo, handler, type});
        }
    }

    private void judge() {
        int due = model.judge();
        kept += due > 0 ? 1 : 0;
        due("judge (" + model.whyRefused + ")", due, j::judge);
        Check.same(name + ": frames", Check.frames(j, due, model.localCount), due < 0 ? "refused" : model.told());
        Check.same(name + ": digest", j.digest(), model.digest());
        // What is refused is often begun anew, so that not all calls are lost on it.
        if (due < 0 && below(2) == 0) {
            method(0, 0, -1, 4, 6);
        }
    }

    private void ask() {
        int n = model.frames.size();
        int k = about(n);
        int what = about(4);
        boolean isOne = k >= 0 && k < n;
        if (what < 0 || what > 3) {
            due("frame " + k + " " + what, IAE, () -> j.frame(k, what));
        } else if (!isOne) {
            due("frame " + k + " " + what, -1, () -> j.frame(k, what));
            due("context " + k + " " + what, -1, () -> j.context(k, what));
            due("told " + k + " " + what, -1, () -> j.told(k, what));
        }
        int s = type();
        int t = type();
        boolean both = isType(s) && isType(t);
        due("stands " + s + " " + t, !both ? IAE : model.stands(s, t) ? 1 : 0, () -> j.stands(s, t) ? 1 : 0);
        boolean references = isReference(s) && isReference(t);
        due("common " + s + " " + t, references ? model.common(s, t) : IAE, () -> j.common(s, t));
    }

    // ---- INSTRUCTIONS

    private void push() {
        switch (below(8)) {
            case 0: case 1: put(3, 0, 0); break;
            case 2: put(1, 0, 0); break;
            case 3: put(9, 0, 0); break;
            case 4: put(11, 0, 0); break;
            case 5: put(18, about(model.classes.size()), 0); break;
            case 6: put(187, about(model.classes.size()), 0); break;
            default: put(25, about(model.localCount), 0);
        }
    }

    private void putSome() {
        int locals = model.localCount;
        switch (below(16)) {
            case 0: case 1: case 2: case 3:
                push();
                break;
            case 4:
                put(87 + below(9), 0, 0);
                break;
            case 5:
                put(3, 0, 0);
                put(54, about(locals), 0);
                break;
            case 6:
                put(58, about(locals), 0);
                break;
            case 7:
                put(3, 0, 0);
                put(153 + below(6), about(model.code.size() + 2), 0);
                break;
            case 8:
                put(167 + below(2), about(model.code.size() + 4), 0);
                break;
            case 9:
                put(169, about(locals), 0);
                break;
            case 10:
                put(178 + below(4), about(model.fields.size()), 0);
                break;
            case 11:
                put(182 + below(5), about(model.shapes.size()), 0);
                break;
            case 12:
                put(3, 0, 0);
                put(170 + below(2), 0, 0);
                to(about(model.code.size() + 2));
                break;
            case 13:
                put(9, 0, 0);
                put(55, about(locals), 0);
                break;
            default:
                anything();
        }
    }

    private void end() {
        if (model.result < 0 || !isReference(model.result)) {
            put(177, 0, 0);
        } else {
            put(1, 0, 0);
            put(176, 0, 0);
        }
        judge();
    }

    private void anything() {
        int op = below(30) == 0 ? edge() : below(200);
        char kind = op < 0 || op >= 200 ? '-' : KINDS.charAt(op);
        int a = 0;
        if (below(20) == 0 || kind == '#') {
            a = edge();
        } else if (kind == '1' || kind == 'a' || kind == 't' || kind == 'd') {
            a = type();
        } else if (kind == '2') {
            a = 65531 + 4 * below(2);
        } else if (kind == 'l' || kind == 'i') {
            a = about(model.localCount);
        } else if (kind == 'f' || kind == 'm' || kind == 'c' || kind == 'p' || kind == 'j') {
            a = about(kind == 'f' ? model.fields.size() : kind == 'm' ? model.shapes.size() : 8);
        }
        put(op, a, kind == 'd' ? 1 + below(2) : kind == 'i' || below(25) == 0 ? edge() : 0);
    }
}
