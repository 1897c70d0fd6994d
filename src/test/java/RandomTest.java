import java.util.ArrayList;
import java.util.List;
import java.util.Random;

/**
 * Promises 11 to 17 on METHODS that are made up by chance (always the same ones), against the
 * answers of NaiveJudge. What is refused is mended bit by bit, so that many METHODS are kept.
 */
public final class RandomTest {
    private static final int ARRAY = 65536;
    private static int kept = 0;
    private static int refused = 0;
    private static int withContexts = 0;
    private static long framesSeen = 0;
    private static final java.util.Map<String, Integer> WHY = new java.util.TreeMap<>();

    private final Random random;
    private final NaiveJudge naive = new NaiveJudge();
    private final List<Integer> types = new ArrayList<>();
    /** The METHOD in parts: jumps are told by the part that is jumped to (-100 minus it) until it is assembled. */
    private List<List<NaiveJudge.Instruction>> parts = new ArrayList<>();
    private final List<int[]> partRows = new ArrayList<>();
    private final List<Integer> subroutines = new ArrayList<>();
    private List<NaiveJudge.Instruction> part = new ArrayList<>();

    private RandomTest(long seed) {
        random = new Random(seed);
    }

    public static void main(String[] args) {
        int from = args.length > 0 ? Integer.parseInt(args[0]) : 0;
        int upTo = args.length > 1 ? Integer.parseInt(args[1]) : 1200;
        for (int seed = from; seed < upTo; seed++) {
            new RandomTest(seed).run(seed);
        }
        System.out.println("RandomTest: " + kept + " kept, " + refused + " refused, " + framesSeen + " FRAMES, "
            + withContexts + " of them with CONTEXTS");
        if (args.length > 2) {
            System.out.println(WHY);
        }
        Check.yes("many are kept", kept > refused / 20);
        Check.yes("many have CONTEXTS", withContexts > kept / 10);
        Check.end("RandomTest");
    }

    private int below(int n) {
        return random.nextInt(n);
    }

    private <T> T any(List<T> list) {
        return list.get(below(list.size()));
    }

    private void run(int seed) {
        makeClasses();
        compareTypes(seed);
        for (int k = 0; k < 3; k++) {
            makeMethod();
            int keptHere = 0;
            for (int tries = 0; tries < 60 && keptHere < 6; tries++) {
                assemble();
                boolean isKept = compare(seed);
                keptHere += isKept ? 1 : 0;
                change(isKept);
            }
        }
    }

    private void makeClasses() {
        int n = 3 + below(6);
        for (int k = 0; k < n; k++) {
            boolean isInterface = below(4) == 0;
            int up = below(naive.classes.size());
            if (isInterface || naive.classes.get(up).isInterface) {
                up = 0;
            }
            naive.classes.add(new NaiveJudge.Klass(up, isInterface));
        }
        for (int c = 0; c < naive.classes.size(); c++) {
            types.add(c);
            types.add(ARRAY * (1 + below(3)) + c);
        }
        for (int k = 65528; k < 65536; k++) {
            types.add(k);
            types.add(ARRAY * (1 + below(2)) + k);
        }
        for (int k = 0; k < 8; k++) {
            naive.fields.add(new int[] {below(naive.classes.size()), any(types)});
        }
        for (int k = 0; k < 14; k++) {
            int c = below(naive.classes.size());
            boolean constructor = below(2) == 0 && !naive.classes.get(c).isInterface;
            NaiveJudge.Shape s = new NaiveJudge.Shape(c, constructor || below(2) == 0 ? -1 : any(types), constructor);
            for (int m = below(4); m > 0 && below(3) > 0; m--) {
                s.takes.add(any(types));
            }
            naive.shapes.add(s);
        }
    }

    private void compareTypes(int seed) {
        FlowJudge j = new FlowJudge();
        tellClasses(j);
        for (int s : types) {
            for (int t : types) {
                Check.same(seed + ": stands " + s + " " + t, j.stands(s, t) ? 1 : 0, naive.stands(s, t) ? 1 : 0);
                if (!NaiveJudge.primitive(s) && !NaiveJudge.primitive(t)) {
                    Check.same(seed + ": common " + s + " " + t, j.common(s, t), naive.common(s, t));
                }
            }
        }
    }

    private void tellClasses(FlowJudge j) {
        for (int c = 4; c < naive.classes.size(); c++) {
            j.add(naive.classes.get(c).up, naive.classes.get(c).isInterface);
        }
    }

    private FlowJudge tell() {
        FlowJudge j = new FlowJudge();
        tellClasses(j);
        for (int[] f : naive.fields) {
            j.field(f[0], f[1]);
        }
        for (NaiveJudge.Shape s : naive.shapes) {
            j.shape(s.c, s.result, s.constructor);
            for (int t : s.takes) {
                j.takes(t);
            }
        }
        j.method(naive.owner, naive.how, naive.result, naive.localCount, naive.stackCount);
        for (int t : naive.arguments) {
            j.argument(t);
        }
        for (NaiveJudge.Instruction x : naive.code) {
            j.put(x.op, x.a, x.b);
            for (int k : x.to) {
                j.to(k);
            }
        }
        for (int[] r : naive.rows) {
            j.row(r[0], r[1], r[2], r[3]);
        }
        return j;
    }

    private boolean compare(int seed) {
        int due = naive.judge();
        FlowJudge j = tell();
        int got = j.judge();
        Check.same(seed + ": judge (" + naive.whyRefused + ")", got, due);
        if (got != due) {
            tellMethod();
        }
        Check.same(seed + ": digest", j.digest(), naive.digest());
        if (due < 0) {
            refused++;
            WHY.merge(naive.whyRefused.replaceAll("[0-9]+", "#"), 1, Integer::sum);
            return false;
        }
        kept++;
        framesSeen += due;
        Check.same(seed + ": frames", Check.frames(j, got, naive.localCount), naive.told());
        for (int n = 0; n < due; n++) {
            withContexts += j.frame(n, 1) > 0 ? 1 : 0;
        }
        Check.same(seed + ": judge once more", j.judge(), due);
        Check.same(seed + ": digest once more", j.digest(), naive.digest());
        return true;
    }

    private void tellMethod() {
        System.out.println("METHOD of " + naive.owner + " " + naive.how + " " + naive.result + " " + naive.localCount
            + " " + naive.stackCount + " " + naive.arguments);
        for (int i = 0; i < naive.code.size(); i++) {
            NaiveJudge.Instruction x = naive.code.get(i);
            System.out.println("  " + i + ": " + x.op + " " + x.a + " " + x.b + " " + x.to);
        }
        for (int[] r : naive.rows) {
            System.out.println("  row " + r[0] + " " + r[1] + " " + r[2] + " " + r[3]);
        }
    }

    private void makeMethod() {
        int how = below(3);
        int owner = below(naive.classes.size());
        if (how == 2 && naive.classes.get(owner).isInterface) {
            how = 1;
        }
        int locals = 3 + below(5);
        naive.method(owner, how, how == 2 || below(2) == 0 ? -1 : any(types), locals, 3 + below(5));
        for (int k = below(3); k > 0; k--) {
            naive.arguments.add(any(types));
        }
        parts = new ArrayList<>();
        partRows.clear();
        subroutines.clear();
        int statements = 3 + below(14);
        for (int k = 0; k < statements; k++) {
            newPart();
            statement();
        }
        newPart();
        end();
        for (int k = below(4); k > 0; k--) {
            subroutine();
        }
        int n = parts.size();
        for (int k = below(3); k > 0; k--) {
            int from = below(n);
            partRows.add(new int[] {from, from + 1 + below(n - from), parts.size(), below(3) == 0 ? throwable() : -1});
            newPart();
            put(below(2) == 0 ? 87 : 58, 0);
            for (int m = below(3); m > 0; m--) {
                newPart();
                statement();
            }
            newPart();
            end();
        }
        aimJumps();
    }

    private void newPart() {
        part = new ArrayList<>();
        parts.add(part);
    }

    private int throwable() {
        for (int k = 0; k < 20; k++) {
            int c = below(naive.classes.size());
            if (naive.stands(c, 1)) {
                return c;
            }
        }
        return below(10) == 0 ? below(naive.classes.size()) : 1;
    }

    private void subroutine() {
        subroutines.add(parts.size());
        int at = local();
        newPart();
        put(58, at);
        for (int m = below(4); m > 0; m--) {
            newPart();
            statement();
        }
        newPart();
        if (below(5) > 0) {
            put(169, at);
        } else {
            end();
        }
    }

    private int local() {
        return below(naive.localCount);
    }

    private void put(int op, int... operands) {
        part.add(new NaiveJudge.Instruction(op, operands.length > 0 ? operands[0] : 0,
            operands.length > 1 ? operands[1] : 0));
    }

    private void end() {
        if (naive.how == 2 && below(4) > 0) {
            put(25, 0);
            for (int s = 0; s < naive.shapes.size(); s++) {
                NaiveJudge.Shape shape = naive.shapes.get(s);
                if (shape.constructor && (shape.c == naive.owner || shape.c == naive.classes.get(naive.owner).up)) {
                    arguments(shape);
                    put(183, s);
                    put(177);
                    return;
                }
            }
            put(191);
            return;
        }
        if (below(6) == 0) {
            put(1);
            put(191);
            return;
        }
        if (naive.result < 0) {
            put(177);
            return;
        }
        pushOf(naive.result);
        int k = "ILFDR".indexOf(NaiveJudge.place(naive.result).charAt(0));
        put(172 + k);
    }

    private void pushOf(int type) {
        switch (NaiveJudge.place(type).charAt(0)) {
            case 'I':
                put(below(2) == 0 ? 3 : 16, 0);
                break;
            case 'F':
                put(11);
                break;
            case 'L':
                put(9);
                break;
            case 'D':
                put(14);
                break;
            default:
                pushReference(type);
        }
    }

    private void pushReference(int type) {
        switch (below(6)) {
            case 0:
                put(18, type);
                break;
            case 1:
                put(1);
                break;
            case 2:
                if (type >= ARRAY && !NaiveJudge.primitive(type - ARRAY)) {
                    put(3);
                    put(189, type - ARRAY);
                } else if (type >= ARRAY) {
                    put(3);
                    put(188, type - ARRAY - 65528);
                } else {
                    put(1);
                    put(192, type);
                }
                break;
            case 3:
                put(25, local());
                break;
            case 4: {
                int t = any(types);
                if (NaiveJudge.primitive(t) || !naive.stands(t, type)) {
                    t = type;
                }
                put(18, t);
                break;
            }
            default:
                put(25, local());
                put(192, type);
        }
    }

    private void arguments(NaiveJudge.Shape shape) {
        for (int t : shape.takes) {
            pushOf(t);
        }
    }

    private void statement() {
        switch (below(19)) {
            case 0: case 1: {
                int t = any(types);
                pushOf(t);
                store(t);
                break;
            }
            case 2:
                put(132, local(), below(9));
                break;
            case 3: case 4:
                put(167, -1);
                break;
            case 5: case 6: case 7:
                pushOf(65534);
                put(153 + below(6), -1);
                break;
            case 8:
                pushOf(0);
                put(198 + below(2), -1);
                break;
            case 9: case 10: case 11:
                put(168, -1);
                break;
            case 12: {
                put(3);
                NaiveJudge.Instruction x = new NaiveJudge.Instruction(170 + below(2), 0, 0);
                for (int k = 1 + below(3); k > 0; k--) {
                    x.to.add(-1);
                }
                part.add(x);
                break;
            }
            case 13:
                create();
                break;
            case 14:
                call();
                break;
            case 15:
                useField();
                break;
            case 16:
                useArray();
                break;
            case 17:
                put(below(2) == 0 ? 25 : 21, local());
                put(below(2) == 0 ? 58 : 54, local());
                break;
            default:
                anything();
        }
    }

    private void store(int t) {
        int k = "ILFDR".indexOf(NaiveJudge.place(t).charAt(0));
        put(54 + k, k == 1 || k == 3 ? below(naive.localCount - 1) : local());
    }

    private void create() {
        List<Integer> constructors = new ArrayList<>();
        for (int s = 0; s < naive.shapes.size(); s++) {
            if (naive.shapes.get(s).constructor) {
                constructors.add(s);
            }
        }
        int s = constructors.isEmpty() ? below(naive.shapes.size()) : any(constructors);
        put(187, below(9) == 0 ? 0 : naive.shapes.get(s).c);
        boolean twice = below(2) == 0;
        if (twice) {
            put(89);
        }
        if (below(3) == 0) {
            put(58, local());
            put(25, local());
        }
        arguments(naive.shapes.get(s));
        put(183, s);
        if (twice) {
            put(below(2) == 0 ? 87 : 58, 0);
        }
    }

    private void call() {
        int s = below(naive.shapes.size());
        NaiveJudge.Shape shape = naive.shapes.get(s);
        int op = 182 + below(5);
        if (shape.constructor) {
            op = 183;
        }
        if (op == 183) {
            put(25, below(2) == 0 ? 0 : local());
        } else if (op == 182 || op == 185) {
            pushOf(shape.c);
        }
        arguments(shape);
        put(op, s);
        if (shape.result >= 0) {
            store(shape.result);
        }
    }

    private void useField() {
        int f = below(naive.fields.size());
        int[] field = naive.fields.get(f);
        int op = 178 + below(4);
        if (op >= 180) {
            if (below(2) == 0) {
                put(25, 0);
            } else {
                pushOf(field[0]);
            }
        }
        if (op == 179 || op == 181) {
            pushOf(field[1]);
            put(op, f);
        } else {
            put(op, f);
            store(field[1]);
        }
    }

    private void useArray() {
        int t = any(types);
        if (t < ARRAY) {
            t = ARRAY * (1 + below(2)) + t;
        }
        if (below(3) == 0) {
            int dims = 1 + below(t / ARRAY);
            for (int k = 0; k < dims; k++) {
                put(4);
            }
            put(197, t, dims);
        } else {
            pushReference(t);
        }
        int component = t - ARRAY;
        int op;
        switch (component) {
            case 65528: case 65532: op = 51; break;
            case 65529: op = 52; break;
            case 65530: op = 48; break;
            case 65531: op = 49; break;
            case 65533: op = 53; break;
            case 65534: op = 46; break;
            case 65535: op = 47; break;
            default: op = 50; break;
        }
        switch (below(3)) {
            case 0:
                put(190);
                put(54, local());
                break;
            case 1:
                put(3);
                put(op);
                store(component);
                break;
            default:
                put(3);
                pushOf(component);
                put(op + 33);
        }
    }

    private void anything() {
        int op;
        do {
            op = below(200);
        } while (op == 19 || op == 196 || op >= 26 && op <= 45 || op >= 59 && op <= 78);
        int t = any(types);
        int reference = NaiveJudge.primitive(t) ? 0 : t;
        if (op == 18) {
            put(18, t == 65535 || t == 65531 ? 0 : t);
        } else if (op == 20) {
            put(20, 65531 + 4 * below(2));
        } else if (op >= 21 && op <= 25 || op >= 54 && op <= 58 || op == 132 || op == 169) {
            put(op, below(10) == 0 ? naive.localCount - 1 : local());
        } else if (NaiveJudge.jumps(op)) {
            put(op, -1);
        } else if (op == 170 || op == 171) {
            put(87);
        } else if (op >= 178 && op <= 181) {
            put(op, below(naive.fields.size()));
        } else if (op >= 182 && op <= 186) {
            put(op, below(naive.shapes.size()));
        } else if (op == 187) {
            put(op, below(naive.classes.size()));
        } else if (op == 188) {
            put(op, below(8));
        } else if (op == 189 || op == 192 || op == 193) {
            put(op, reference);
        } else if (op == 197) {
            put(op, Math.max(reference, ARRAY), 1);
        } else {
            put(op, 0);
        }
    }

    private int target() {
        return -100 - below(parts.size());
    }

    private void aimJumps() {
        for (List<NaiveJudge.Instruction> one : parts) {
            for (int i = 0; i < one.size(); i++) {
                NaiveJudge.Instruction x = one.get(i);
                if (x.a == -1 && NaiveJudge.jumps(x.op)) {
                    boolean down = x.op == 168 && !subroutines.isEmpty() && below(20) > 0;
                    one.set(i, new NaiveJudge.Instruction(x.op, down ? -100 - any(subroutines) : target(), x.b));
                }
                x.to.replaceAll(k -> k == -1 ? target() : k);
            }
        }
    }

    private final List<Integer> partOf = new ArrayList<>();

    private void assemble() {
        int[] starts = new int[parts.size() + 1];
        partOf.clear();
        for (int k = 0; k < parts.size(); k++) {
            starts[k + 1] = starts[k] + parts.get(k).size();
        }
        naive.code.clear();
        for (int k = 0; k < parts.size(); k++) {
            for (NaiveJudge.Instruction x : parts.get(k)) {
                int a = NaiveJudge.jumps(x.op) ? starts[-100 - x.a] : x.a;
                NaiveJudge.Instruction y = new NaiveJudge.Instruction(x.op, a, x.b);
                for (int to : x.to) {
                    y.to.add(starts[-100 - to]);
                }
                naive.code.add(y);
                partOf.add(k);
            }
        }
        naive.rows.clear();
        for (int[] r : partRows) {
            naive.rows.add(new int[] {starts[r[0]], starts[r[1]], starts[r[2]], r[3]});
        }
    }

    /** What was refused is replaced by something else; what was kept gets something else somewhere. */
    private void change(boolean isKept) {
        boolean elsewhere = isKept || naive.refusedAt < 0 || below(6) == 0;
        int k = elsewhere ? below(parts.size()) : partOf.get(naive.refusedAt);
        part = parts.get(k);
        if (!isKept && naive.refusedAt < 0) {
            naive.arguments.clear();
            partRows.removeIf(r -> below(2) == 0);
        } else if (!isKept && naive.whyRefused.equals("overflow") && naive.stackCount < 9) {
            naive.stackCount++;
        } else if (!isKept && naive.whyRefused.equals("handler") && below(2) == 0) {
            partRows.removeIf(r -> below(2) == 0);
        } else if (!isKept && naive.whyRefused.equals("end")) {
            end();
        } else {
            replace(below(5));
        }
        aimJumps();
    }

    private void replace(int how) {
        if (how == 0 && !part.isEmpty() && NaiveJudge.jumps(part.get(part.size() - 1).op)) {
            int i = part.size() - 1;
            part.set(i, new NaiveJudge.Instruction(part.get(i).op, -1, 0));
            return;
        }
        if (how == 1 && !part.isEmpty()) {
            part.remove(below(part.size()));
            return;
        }
        part.clear();
        if (how > 2) {
            statement();
        }
    }
}
