import java.util.Arrays;

/**
 * A judge for code by the flow of data, with subroutines, after The Java Virtual Machine
 * Specification, Java SE 17 Edition, 4.10.2. A METHOD is told INSTRUCTION by INSTRUCTION; judge
 * follows all ways through it and keeps, for each TARGET with a CONTEXT, what may be there.
 */
public final class FlowJudge {
    /* A place is held just as it is told; its lower four bits say of what kind it is. */
    private static final int NOTHING = 0;
    private static final int INT = 1;
    private static final int FLOAT = 2;
    private static final int LONG = 3;
    private static final int DOUBLE = 4;
    private static final int NULL = 5;
    private static final int THIS = 6;
    private static final int BEHIND = 7;
    private static final int REFERENCE = 8;
    private static final int NEW = 9;
    private static final int ADDRESS = 10;

    private static final int OBJECT = 0;
    private static final int THROWABLE = 1;
    private static final int CLONEABLE = 2;
    private static final int SERIALIZABLE = 3;
    private static final int ONE_DIMENSION = 65536;
    private static final int ELEMENT = 65535;
    private static final int FIRST_PRIMITIVE = 65528;
    private static final int BOOLEAN_TYPE = 65528;
    private static final int FLOAT_TYPE = 65530;
    private static final int DOUBLE_TYPE = 65531;
    private static final int BYTE_TYPE = 65532;
    private static final int LONG_TYPE = 65535;
    private static final int NO_RESULT = -1;
    private static final int ANY_CLASS = -1;

    private static final int MOST_CLASSES = 200;
    private static final int MOST_DIMENSIONS = 255;
    private static final int MOST_MEMBERS = 100;
    private static final int MOST_ARGUMENTS = 20;
    private static final int MOST_PLACES = 200;
    private static final int MOST_INSTRUCTIONS = 1000;
    private static final int MOST_TARGETS = 50;
    private static final int MOST_ROWS = 50;
    private static final int MOST_ADDRESSES = 16;
    private static final int MOST_WORDS = 20000;
    /** Each word can change some 500 times at most, so no METHOD needs as many visits as this. */
    private static final int MOST_VISITS = 12000000;

    private static final int STATIC = 0;
    private static final int CONSTRUCTOR = 2;

    private static final int ALOAD = 25;
    private static final int ASTORE = 58;
    private static final int IINC = 132;
    private static final int GOTO = 167;
    private static final int JSR = 168;
    private static final int RET = 169;
    private static final int INVOKESPECIAL = 183;
    private static final int NEW_OBJECT = 187;
    private static final int ATHROW = 191;

    private final Types types;
    private final Members members;
    private final Code code;
    private final Contexts contexts;
    private final Frames frames;
    private final Flow flow;

    public FlowJudge() {
        types = new Types();
        members = new Members();
        code = new Code();
        contexts = new Contexts();
        frames = new Frames(types, contexts);
        flow = new Flow(types, members, code, contexts, frames);
    }

    public int add(int up, boolean isInterface) throws IllegalArgumentException, IllegalStateException {
        if (!types.isClass(up) || types.isInterface[up] || isInterface && up != OBJECT) {
            throw new IllegalArgumentException("no CLASS that such a one can be below");
        }
        if (types.count >= MOST_CLASSES) {
            throw new IllegalStateException("no more CLASSES");
        }
        return types.enter(up, isInterface);
    }

    public int field(int c, int type) throws IllegalArgumentException, IllegalStateException {
        if (!types.isClass(c) || !types.isType(type)) {
            throw new IllegalArgumentException("no CLASS or no TYPE");
        }
        if (members.fieldCount >= MOST_MEMBERS) {
            throw new IllegalStateException("no more FIELDS");
        }
        return members.enterField(c, type);
    }

    public int shape(int c, int result, boolean constructor) throws IllegalArgumentException, IllegalStateException {
        if (!types.isClass(c) || !types.isResult(result)) {
            throw new IllegalArgumentException("no CLASS or no result");
        }
        if (constructor && (result != NO_RESULT || types.isInterface[c])) {
            throw new IllegalArgumentException("no constructor is like this");
        }
        if (members.shapeCount >= MOST_MEMBERS) {
            throw new IllegalStateException("no more SHAPES");
        }
        return members.enterShape(c, result, constructor);
    }

    public int takes(int type) throws IllegalArgumentException, IllegalStateException {
        if (!types.isType(type)) {
            throw new IllegalArgumentException("no TYPE");
        }
        if (!members.canTakeMore()) {
            throw new IllegalStateException("no SHAPE, or no more arguments");
        }
        return members.takeMore(type);
    }

    public int method(int c, int how, int result, int locals, int stack) throws IllegalArgumentException {
        if (!types.isClass(c) || how < STATIC || how > CONSTRUCTOR || !types.isResult(result)) {
            throw new IllegalArgumentException("no CLASS, no such how, or no result");
        }
        if (how == CONSTRUCTOR && (result != NO_RESULT || types.isInterface[c])) {
            throw new IllegalArgumentException("no constructor is like this");
        }
        if (locals < 0 || locals > MOST_PLACES || stack < 0 || stack > MOST_PLACES) {
            throw new IllegalArgumentException("no such number of places");
        }
        code.begin(c, how, result, locals, stack);
        return 0;
    }

    public int argument(int type) throws IllegalArgumentException, IllegalStateException {
        if (!types.isType(type)) {
            throw new IllegalArgumentException("no TYPE");
        }
        if (code.argumentCount >= MOST_ARGUMENTS) {
            throw new IllegalStateException("no more arguments");
        }
        return code.takeMore(type);
    }

    public int put(int op, int a, int b) throws IllegalArgumentException, IllegalStateException {
        if (!isInstruction(op, a, b)) {
            throw new IllegalArgumentException("no such INSTRUCTION");
        }
        if (code.count >= MOST_INSTRUCTIONS) {
            throw new IllegalStateException("no more INSTRUCTIONS");
        }
        return code.enter(op, a, b);
    }

    public int to(int k) throws IllegalArgumentException, IllegalStateException {
        if (k < 0) {
            throw new IllegalArgumentException("no INSTRUCTION");
        }
        if (!code.canSwitchToMore()) {
            throw new IllegalStateException("no switch, or no more TARGETS");
        }
        return code.switchToMore(k);
    }

    public int row(int from, int upTo, int handler, int type) throws IllegalArgumentException, IllegalStateException {
        if (from < 0 || upTo < 0 || handler < 0 || type != ANY_CLASS && !types.isClass(type)) {
            throw new IllegalArgumentException("no INSTRUCTION or no CLASS");
        }
        if (code.rowCount >= MOST_ROWS) {
            throw new IllegalStateException("no more ROWS");
        }
        return code.enterRow(from, upTo, handler, type);
    }

    public int judge() {
        boolean kept = code.isSound();
        frames.clear(code.locals, code.stack);
        contexts.clear();
        if (kept) {
            code.markTargets();
            kept = flow.begin();
        }
        for (int visits = 0; visits < MOST_VISITS && kept && frames.isAnyAwaited(); visits++) {
            kept = flow.follow(frames.takeAwaited());
        }
        // What stood in doubt on the way is decided by what the FRAMES have in the end.
        boolean again = kept && flow.isInDoubt();
        for (int f = 0; f < frames.count && kept && again; f++) {
            kept = flow.follow(f);
        }
        if (!kept || frames.isAnyAwaited()) {
            frames.clear(code.locals, code.stack);
            return -1;
        }
        frames.arrange();
        return frames.count;
    }

    public int frame(int n, int what) throws IllegalArgumentException {
        if (what < 0 || what > 3) {
            throw new IllegalArgumentException("no such what");
        }
        return frames.factOf(n, what);
    }

    public int context(int n, int i) {
        return frames.addressOf(n, i);
    }

    public int told(int n, int i) {
        return frames.placeOf(n, i);
    }

    public long digest() {
        long h = 7;
        for (int n = 0; n < frames.count; n++) {
            for (int what = 0; what <= 3; what++) {
                h = 31 * h + frames.factOf(n, what);
            }
            int places = frames.locals + frames.factOf(n, 2);
            for (int i = 0; i < places; i++) {
                h = 31 * h + frames.placeOf(n, i);
            }
        }
        return h;
    }

    public boolean stands(int s, int t) throws IllegalArgumentException {
        if (!types.isType(s) || !types.isType(t)) {
            throw new IllegalArgumentException("no TYPE");
        }
        return types.mayStand(s, t);
    }

    public int common(int s, int t) throws IllegalArgumentException {
        if (!types.isReference(s) || !types.isReference(t)) {
            throw new IllegalArgumentException("no TYPE, or a primitive one");
        }
        return types.sharedOf(s, t);
    }

    private boolean isInstruction(int op, int a, int b) {
        switch (op) {
            case IINC:
                return a >= 0;
            case 197:
                return types.isReference(a) && b >= 1 && b <= Types.dimensionsOf(a);
            default:
                return b == 0 && isOperand(op, a);
        }
    }

    private boolean isOperand(int op, int a) {
        switch (op) {
            case 16: case 17:
                return true;
            case 18:
                return types.isType(a) && Types.widthOf(a) == 1;
            case 20:
                return types.isType(a) && Types.widthOf(a) == 2;
            case 178: case 179: case 180: case 181:
                return a >= 0 && a < members.fieldCount;
            case 182: case 183: case 184: case 185: case 186:
                return a >= 0 && a < members.shapeCount;
            case NEW_OBJECT:
                return types.isClass(a);
            case 188:
                return a >= 0 && a <= 7;
            case 189:
                // An array of it has one dimension more, and has to be a TYPE as well.
                return types.isReference(a) && Types.dimensionsOf(a) < MOST_DIMENSIONS;
            case 192: case 193:
                return types.isReference(a);
            default:
                return Code.isOpcode(op) && (a == 0 || a > 0 && (Code.isOfLocal(op) || Code.isJump(op)));
        }
    }

    /** The CLASSES, and what TYPES have to do with one another. */
    private static final class Types {
        /** Each CLASS but Object has a greater number than the one that it is below. */
        private final int[] above = new int[MOST_CLASSES];
        private final boolean[] isInterface = new boolean[MOST_CLASSES];
        private int count;

        Types() {
            isInterface[CLONEABLE] = true;
            isInterface[SERIALIZABLE] = true;
            count = 4;
        }

        int enter(int up, boolean interfaceToo) {
            above[count] = up;
            isInterface[count] = interfaceToo;
            return count++;
        }

        boolean isClass(int c) {
            return c >= 0 && c < count;
        }

        boolean isType(int t) {
            int element = t & ELEMENT;
            return t >= 0 && dimensionsOf(t) <= MOST_DIMENSIONS && (element < count || element >= FIRST_PRIMITIVE);
        }

        boolean isReference(int t) {
            return isType(t) && !isPrimitive(t);
        }

        boolean isResult(int t) {
            return t == NO_RESULT || isType(t);
        }

        boolean isOfInterface(int t) {
            int element = t & ELEMENT;
            return element < count && isInterface[element];
        }

        static boolean isPrimitive(int t) {
            return t >= FIRST_PRIMITIVE && t < ONE_DIMENSION;
        }

        static int dimensionsOf(int t) {
            return t >>> 16;
        }

        static int widthOf(int t) {
            return t == LONG_TYPE || t == DOUBLE_TYPE ? 2 : 1;
        }

        static int placeOf(int t) {
            if (!isPrimitive(t)) {
                return 16 * t + REFERENCE;
            }
            switch (t) {
                case FLOAT_TYPE:
                    return FLOAT;
                case DOUBLE_TYPE:
                    return DOUBLE;
                case LONG_TYPE:
                    return LONG;
                default:
                    return INT;
            }
        }

        boolean mayStand(int s, int t) {
            if (s == t) {
                return true;
            }
            if (isPrimitive(s) || isPrimitive(t)) {
                return false;
            }
            int element = t & ELEMENT;
            int more = dimensionsOf(s) - dimensionsOf(t);
            if (more > 0) {
                return element == OBJECT || element == CLONEABLE || element == SERIALIZABLE;
            }
            return more == 0 && mayClassStand(s & ELEMENT, element);
        }

        private boolean mayClassStand(int c, int other) {
            if (c >= count || other >= count) {
                return false;
            }
            if (other == OBJECT || isInterface[other]) {
                return true;
            }
            int x = c;
            for (int k = 0; k < MOST_CLASSES && x > other; k++) {
                x = above[x];
            }
            return x == other;
        }

        int sharedOf(int s, int t) {
            if (s == t) {
                return s;
            }
            int x = s & ELEMENT;
            int y = t & ELEMENT;
            int dx = dimensionsOf(s);
            int dy = dimensionsOf(t);
            if (dx != dy || x >= count || y >= count) {
                int ofObject = x < FIRST_PRIMITIVE ? dx : dx - 1;
                int ofObjectToo = y < FIRST_PRIMITIVE ? dy : dy - 1;
                return (ofObject < ofObjectToo ? ofObject : ofObjectToo) << 16;
            }
            for (int k = 0; k < 2 * MOST_CLASSES && x != y; k++) {
                if (x > y) {
                    x = above[x];
                } else {
                    y = above[y];
                }
            }
            return (dx << 16) + x;
        }

        /** What two ways to one place have there in common. */
        int meet(int v, int w) {
            if (v == w) {
                return v;
            }
            boolean isReference = (v & 15) == REFERENCE;
            boolean isReferenceToo = (w & 15) == REFERENCE;
            if (isReference && isReferenceToo) {
                return 16 * sharedOf(v >> 4, w >> 4) + REFERENCE;
            }
            if (v == NULL && isReferenceToo) {
                return w;
            }
            return w == NULL && isReference ? v : NOTHING;
        }
    }

    /** The FIELDS and SHAPES. */
    private static final class Members {
        private final int[] fieldClasses = new int[MOST_MEMBERS];
        private final int[] fieldTypes = new int[MOST_MEMBERS];
        private int fieldCount;
        private final int[] shapeClasses = new int[MOST_MEMBERS];
        private final int[] shapeResults = new int[MOST_MEMBERS];
        private final boolean[] isConstructor = new boolean[MOST_MEMBERS];
        private final int[] taken = new int[MOST_MEMBERS * MOST_ARGUMENTS];
        private final int[] takenCounts = new int[MOST_MEMBERS];
        private int shapeCount;

        int enterField(int c, int type) {
            fieldClasses[fieldCount] = c;
            fieldTypes[fieldCount] = type;
            return fieldCount++;
        }

        int enterShape(int c, int result, boolean constructor) {
            shapeClasses[shapeCount] = c;
            shapeResults[shapeCount] = result;
            isConstructor[shapeCount] = constructor;
            return shapeCount++;
        }

        boolean canTakeMore() {
            return shapeCount > 0 && takenCounts[shapeCount - 1] < MOST_ARGUMENTS;
        }

        int takeMore(int type) {
            int s = shapeCount - 1;
            taken[s * MOST_ARGUMENTS + takenCounts[s]] = type;
            takenCounts[s]++;
            return takenCounts[s];
        }

        int takenOf(int s, int k) {
            return taken[s * MOST_ARGUMENTS + k];
        }
    }

    /** The METHOD as it has been told. */
    private static final class Code {
        private int owner;
        private int how;
        private int result = NO_RESULT;
        private int locals;
        private int stack;
        private final int[] arguments = new int[MOST_ARGUMENTS];
        private int argumentCount;
        private final int[] ops = new int[MOST_INSTRUCTIONS];
        private final int[] as = new int[MOST_INSTRUCTIONS];
        private final int[] bs = new int[MOST_INSTRUCTIONS];
        private int count;
        /** The TARGETS of all switches, one switch behind another. */
        private int[] switched = new int[64];
        private final int[] firstSwitched = new int[MOST_INSTRUCTIONS];
        private final int[] upToSwitched = new int[MOST_INSTRUCTIONS];
        /** Four numbers for each ROW: from, up to, handler, CLASS. */
        private final int[] rows = new int[4 * MOST_ROWS];
        private int rowCount;
        private final boolean[] isTarget = new boolean[MOST_INSTRUCTIONS];

        void begin(int c, int newHow, int newResult, int newLocals, int newStack) {
            owner = c;
            how = newHow;
            result = newResult;
            locals = newLocals;
            stack = newStack;
            argumentCount = 0;
            count = 0;
            rowCount = 0;
        }

        int takeMore(int type) {
            arguments[argumentCount] = type;
            argumentCount++;
            return argumentCount;
        }

        int enter(int op, int a, int b) {
            int switchedBefore = count > 0 ? upToSwitched[count - 1] : 0;
            ops[count] = op;
            as[count] = a;
            bs[count] = b;
            firstSwitched[count] = switchedBefore;
            upToSwitched[count] = switchedBefore;
            return count++;
        }

        boolean canSwitchToMore() {
            int i = count - 1;
            return i >= 0 && isSwitch(ops[i]) && upToSwitched[i] - firstSwitched[i] < MOST_TARGETS;
        }

        int switchToMore(int k) {
            int i = count - 1;
            int end = upToSwitched[i];
            if (end >= switched.length) {
                switched = Arrays.copyOf(switched, 2 * switched.length);
            }
            switched[end] = k;
            upToSwitched[i] = end + 1;
            return end + 1 - firstSwitched[i];
        }

        int enterRow(int from, int upTo, int handler, int type) {
            int k = 4 * rowCount;
            rows[k] = from;
            rows[k + 1] = upTo;
            rows[k + 2] = handler;
            rows[k + 3] = type;
            rowCount++;
            return rowCount;
        }

        static boolean isOpcode(int op) {
            return op >= 0 && op <= 18 || op >= 20 && op <= 25 || op >= 46 && op <= 58
                || op >= 79 && op <= 195 || op >= 197 && op <= 199;
        }

        static boolean isOfLocal(int op) {
            return op >= 21 && op <= ALOAD || op >= 54 && op <= ASTORE || op == IINC || op == RET;
        }

        static boolean isOfWideLocal(int op) {
            return op == 22 || op == 24 || op == 55 || op == 57;
        }

        static boolean isJump(int op) {
            return op >= 153 && op <= JSR || op == 198 || op == 199;
        }

        static boolean isSwitch(int op) {
            return op == 170 || op == 171;
        }

        /** What is looked at first, before any way is followed. */
        boolean isSound() {
            boolean sound = count > 0 && argumentPlaces() <= locals;
            for (int i = 0; i < count && sound; i++) {
                sound = isSoundAt(i);
            }
            for (int r = 0; r < rowCount && sound; r++) {
                sound = isSoundRow(r);
            }
            return sound;
        }

        private int argumentPlaces() {
            int places = how == STATIC ? 0 : 1;
            for (int k = 0; k < argumentCount; k++) {
                places += Types.widthOf(arguments[k]);
            }
            return places;
        }

        private boolean isSoundAt(int i) {
            int op = ops[i];
            if (isOfLocal(op)) {
                return as[i] < (isOfWideLocal(op) ? locals - 1 : locals);
            }
            if (isJump(op)) {
                return as[i] < count;
            }
            if (!isSwitch(op)) {
                return true;
            }
            boolean sound = firstSwitched[i] < upToSwitched[i];
            for (int k = firstSwitched[i]; k < upToSwitched[i]; k++) {
                sound = sound && switched[k] < count;
            }
            return sound;
        }

        private boolean isSoundRow(int r) {
            int from = rows[4 * r];
            int upTo = rows[4 * r + 1];
            int handler = rows[4 * r + 2];
            return from < count && upTo <= count && from < upTo && handler < count;
        }

        /** Only of sound code: all that is jumped to is an INSTRUCTION. */
        void markTargets() {
            for (int i = 0; i < count; i++) {
                isTarget[i] = i == 0 || ops[i - 1] == JSR;
            }
            for (int i = 0; i < count; i++) {
                if (isJump(ops[i])) {
                    isTarget[as[i]] = true;
                }
            }
            for (int k = 0; k < upToSwitched[count - 1]; k++) {
                isTarget[switched[k]] = true;
            }
            for (int r = 0; r < rowCount; r++) {
                isTarget[rows[4 * r + 2]] = true;
            }
        }
    }

    /** The CONTEXTS that are come to, as a tree: each has one ADDRESS more than the one that it is below. */
    private static final class Contexts {
        private static final int EMPTY = 0;
        private static final int NONE = -1;
        private int[] parents = new int[16];
        private int[] addresses = new int[16];
        private int[] lengths = new int[16];
        private int[] firstBelow = new int[16];
        private int[] nextBeside = new int[16];
        private int count;

        Contexts() {
            firstBelow[EMPTY] = NONE;
            count = 1;
        }

        void clear() {
            firstBelow[EMPTY] = NONE;
            count = 1;
        }

        /** The CONTEXT before a jsr's ADDRESS was added, or NONE if the CONTEXT has no such ADDRESS. */
        int before(int c, int address) {
            int x = c;
            for (int k = 0; k < MOST_ADDRESSES && lengths[x] > 0; k++) {
                if (addresses[x] == address) {
                    return parents[x];
                }
                x = parents[x];
            }
            return NONE;
        }

        int with(int c, int address) {
            int x = firstBelow[c];
            for (int k = 0; k < count && x != NONE; k++) {
                if (addresses[x] == address) {
                    return x;
                }
                x = nextBeside[x];
            }
            makeRoom();
            parents[count] = c;
            addresses[count] = address;
            lengths[count] = lengths[c] + 1;
            firstBelow[count] = NONE;
            nextBeside[count] = firstBelow[c];
            firstBelow[c] = count;
            return count++;
        }

        private void makeRoom() {
            if (count < parents.length) {
                return;
            }
            int room = 2 * count;
            parents = Arrays.copyOf(parents, room);
            addresses = Arrays.copyOf(addresses, room);
            lengths = Arrays.copyOf(lengths, room);
            firstBelow = Arrays.copyOf(firstBelow, room);
            nextBeside = Arrays.copyOf(nextBeside, room);
        }

        int addressAt(int c, int i) {
            int x = c;
            for (int k = 0; k < MOST_ADDRESSES && lengths[x] > i + 1; k++) {
                x = parents[x];
            }
            return addresses[x];
        }

        boolean isBefore(int c, int d) {
            int x = c;
            int y = d;
            for (int k = 0; k < MOST_ADDRESSES && lengths[x] > lengths[y]; k++) {
                x = parents[x];
            }
            for (int k = 0; k < MOST_ADDRESSES && lengths[y] > lengths[x]; k++) {
                y = parents[y];
            }
            if (x == y) {
                return lengths[c] < lengths[d];
            }
            for (int k = 0; k < MOST_ADDRESSES && parents[x] != parents[y]; k++) {
                x = parents[x];
                y = parents[y];
            }
            return addresses[x] < addresses[y];
        }
    }

    /** The TARGETS with CONTEXTS that are come to, and what they have. */
    private static final class Frames {
        private static final int NONE = -1;
        private static final int NOT_AWAITED = -2;
        private static final int HEADS = 256;
        private final Types types;
        private final Contexts contexts;
        private int locals;
        private int size;
        private int count;
        private int[] words = new int[1024];
        private int[] targets = new int[32];
        private int[] ways = new int[32];
        private int[] heights = new int[32];
        private int[] made = new int[32];
        /** FRAMES of the same head are found one behind another. */
        private final int[] heads = new int[HEADS];
        private int[] nextOfHead = new int[32];
        /** FRAMES that have to be followed (again) are awaited one behind another. */
        private int[] nextAwaited = new int[32];
        private int firstAwaited = NONE;
        private int lastAwaited = NONE;
        private int[] order = new int[32];
        private int[] otherOrder = new int[32];

        Frames(Types types, Contexts contexts) {
            this.types = types;
            this.contexts = contexts;
            Arrays.fill(heads, NONE);
        }

        void clear(int newLocals, int newStack) {
            locals = newLocals;
            size = newLocals + newStack;
            count = 0;
            firstAwaited = NONE;
            lastAwaited = NONE;
            Arrays.fill(heads, NONE);
        }

        private static int headOf(int target, int way) {
            return (31 * way + target) & (HEADS - 1);
        }

        int find(int target, int way) {
            int f = heads[headOf(target, way)];
            for (int k = 0; k < count && f != NONE; k++) {
                if (targets[f] == target && ways[f] == way) {
                    return f;
                }
                f = nextOfHead[f];
            }
            return NONE;
        }

        boolean isFull() {
            return (count + 1) * (size + 1) > MOST_WORDS;
        }

        void open(int target, int way, Places places) {
            int f = count;
            makeRoom();
            count++;
            int head = headOf(target, way);
            targets[f] = target;
            ways[f] = way;
            heights[f] = places.top - locals;
            made[f] = places.made;
            nextOfHead[f] = heads[head];
            heads[head] = f;
            System.arraycopy(places.cells, 0, words, f * size, places.top);
            nextAwaited[f] = NOT_AWAITED;
            await(f);
        }

        private void makeRoom() {
            if (count >= targets.length) {
                int room = 2 * count;
                targets = Arrays.copyOf(targets, room);
                ways = Arrays.copyOf(ways, room);
                heights = Arrays.copyOf(heights, room);
                made = Arrays.copyOf(made, room);
                nextOfHead = Arrays.copyOf(nextOfHead, room);
                nextAwaited = Arrays.copyOf(nextAwaited, room);
            }
            int needed = (count + 1) * size;
            if (needed > words.length) {
                words = Arrays.copyOf(words, 2 * needed);
            }
        }

        /** Whether what all ways have in common may be there; what changes is awaited. */
        boolean join(int f, Places places) {
            if (places.top - locals != heights[f]) {
                return false;
            }
            boolean changes = places.made < made[f];
            int base = f * size;
            for (int k = 0; k < places.top; k++) {
                int was = words[base + k];
                if (was == places.cells[k] && was != BEHIND) {
                    continue;
                }
                int both = types.meet(was, places.cells[k]);
                if (both == BEHIND && !isWideAt(base + k - 1)) {
                    both = NOTHING;
                }
                if (both == NOTHING && k >= locals) {
                    return false;
                }
                changes = changes || both != was;
                words[base + k] = both;
            }
            if (changes) {
                made[f] = places.made < made[f] ? places.made : made[f];
                await(f);
            }
            return true;
        }

        private boolean isWideAt(int w) {
            return w >= 0 && (words[w] == LONG || words[w] == DOUBLE);
        }

        private void await(int f) {
            if (nextAwaited[f] != NOT_AWAITED) {
                return;
            }
            nextAwaited[f] = NONE;
            if (lastAwaited == NONE) {
                firstAwaited = f;
            } else {
                nextAwaited[lastAwaited] = f;
            }
            lastAwaited = f;
        }

        boolean isAnyAwaited() {
            return firstAwaited != NONE;
        }

        /** Only if any is awaited. */
        int takeAwaited() {
            int f = firstAwaited;
            firstAwaited = nextAwaited[f];
            if (firstAwaited == NONE) {
                lastAwaited = NONE;
            }
            nextAwaited[f] = NOT_AWAITED;
            return f;
        }

        /** Puts the FRAMES in the order in which they are told. */
        void arrange() {
            if (order.length < count) {
                order = new int[targets.length];
                otherOrder = new int[targets.length];
            }
            for (int n = 0; n < count; n++) {
                order[n] = n;
            }
            for (int run = 1; run < count; run *= 2) {
                for (int from = 0; from < count; from += 2 * run) {
                    mergeRuns(from, run);
                }
                int[] merged = otherOrder;
                otherOrder = order;
                order = merged;
            }
        }

        private void mergeRuns(int from, int run) {
            int middle = from + run < count ? from + run : count;
            int end = middle + run < count ? middle + run : count;
            int x = from;
            int y = middle;
            for (int n = from; n < end; n++) {
                boolean isFirst = y >= end || x < middle && !isBefore(order[y], order[x]);
                otherOrder[n] = isFirst ? order[x] : order[y];
                if (isFirst) {
                    x++;
                } else {
                    y++;
                }
            }
        }

        private boolean isBefore(int f, int g) {
            if (targets[f] != targets[g]) {
                return targets[f] < targets[g];
            }
            return contexts.isBefore(ways[f], ways[g]);
        }

        int factOf(int n, int what) {
            if (n < 0 || n >= count) {
                return -1;
            }
            int f = order[n];
            switch (what) {
                case 0:
                    return targets[f];
                case 1:
                    return contexts.lengths[ways[f]];
                case 2:
                    return heights[f];
                default:
                    return made[f];
            }
        }

        int addressOf(int n, int i) {
            if (n < 0 || n >= count || i < 0) {
                return -1;
            }
            int way = ways[order[n]];
            return i < contexts.lengths[way] ? contexts.addressAt(way, i) : -1;
        }

        int placeOf(int n, int i) {
            if (n < 0 || n >= count || i < 0) {
                return -1;
            }
            int f = order[n];
            return i < locals + heights[f] ? words[f * size + i] : -1;
        }
    }

    /** What is there while a way is followed: the locals, and behind them the stack. */
    private static final class Places {
        private final Types types;
        private final int[] cells = new int[2 * MOST_PLACES];
        private int locals;
        private int top;
        private int end;
        private int made;
        /** Stays, once an INSTRUCTION's rule does not hold. */
        private boolean refused;
        /** Whether locals may be others than when handlers were last come to. */
        private boolean moved;
        /** Whether a reference is an array now that could stand for an interface once it has become Object. */
        private boolean doubtful;
        /** Whether what is there is what is there in the end. */
        private boolean isFinal;

        Places(Types types) {
            this.types = types;
        }

        void begin(Code code) {
            locals = code.locals;
            end = code.locals + code.stack;
            top = locals;
            made = 0;
            refused = false;
            doubtful = false;
            isFinal = false;
            for (int k = 0; k < locals; k++) {
                cells[k] = NOTHING;
            }
            int n = 0;
            if (code.how != STATIC) {
                boolean isToBeMade = code.how == CONSTRUCTOR && code.owner != OBJECT;
                made = code.how == CONSTRUCTOR && !isToBeMade ? 1 : 0;
                setLocal(n, isToBeMade ? THIS : Types.placeOf(code.owner));
                n++;
            }
            for (int k = 0; k < code.argumentCount; k++) {
                setLocal(n, Types.placeOf(code.arguments[k]));
                n += Types.widthOf(code.arguments[k]);
            }
        }

        void bring(Frames frames, int f) {
            top = locals + frames.heights[f];
            made = frames.made[f];
            moved = true;
            System.arraycopy(frames.words, f * frames.size, cells, 0, top);
        }

        private static boolean isWide(int v) {
            return v == LONG || v == DOUBLE;
        }

        private static boolean isAnyReference(int v) {
            int kind = v & 15;
            return kind == NULL || kind == THIS || kind == REFERENCE || kind == NEW;
        }

        int localAt(int n) {
            return n >= 0 && n < locals ? cells[n] : NOTHING;
        }

        void setLocal(int n, int v) {
            int last = isWide(v) ? n + 1 : n;
            if (n < 0 || last >= locals) {
                refused = true;
                return;
            }
            if (n > 0 && cells[n] == BEHIND) {
                cells[n - 1] = NOTHING;
            }
            if (last + 1 < locals && cells[last + 1] == BEHIND) {
                cells[last + 1] = NOTHING;
            }
            cells[n] = v;
            if (last > n) {
                cells[last] = BEHIND;
            }
            moved = true;
        }

        void push(int v) {
            int width = isWide(v) ? 2 : 1;
            if (top + width > end) {
                refused = true;
                return;
            }
            cells[top] = v;
            if (width == 2) {
                cells[top + 1] = BEHIND;
            }
            top += width;
        }

        void pushType(int t) {
            push(Types.placeOf(t));
        }

        /** Any one place that is not of a long or double. */
        int pull() {
            if (top <= locals || cells[top - 1] == BEHIND) {
                refused = true;
                return NOTHING;
            }
            top--;
            return cells[top];
        }

        /** An int, float, long or double. */
        void pullKind(int kind) {
            int width = isWide(kind) ? 2 : 1;
            if (top - width < locals || cells[top - width] != kind) {
                refused = true;
                return;
            }
            top -= width;
        }

        /** What may stand for a TYPE. */
        void pullType(int t) {
            if (Types.isPrimitive(t)) {
                pullKind(Types.placeOf(t));
                return;
            }
            int v = pull();
            if (v == NULL) {
                return;
            }
            int s = v >> 4;
            if ((v & 15) != REFERENCE) {
                refused = true;
            } else if (!types.mayStand(s, t)) {
                boolean mayYet = !isFinal && types.isOfInterface(t) && types.mayStand(s, t - (t & ELEMENT));
                doubtful = doubtful || mayYet;
                refused = refused || !mayYet;
            }
        }

        /** Any reference, THIS and NEW too. */
        int pullReference() {
            int v = pull();
            if (!isAnyReference(v)) {
                refused = true;
            }
            return v;
        }

        /** An array's TYPE, or -1 if it is null. */
        int pullArray() {
            int v = pull();
            boolean isArray = (v & 15) == REFERENCE && (v >> 4) >= ONE_DIMENSION;
            refused = refused || !isArray && v != NULL;
            return isArray ? v >> 4 : -1;
        }

        void drop(int n) {
            if (top - n < locals || cells[top - n] == BEHIND) {
                refused = true;
                return;
            }
            top -= n;
        }

        /** Copies the upper n places under the m places that are below them. */
        void copyUnder(int n, int m) {
            int from = top - n;
            int under = from - m;
            if (under < locals || top + n > end || cells[from] == BEHIND || cells[under] == BEHIND) {
                refused = true;
                return;
            }
            for (int k = top - 1; k >= under; k--) {
                cells[k + n] = cells[k];
            }
            for (int k = 0; k < n; k++) {
                cells[under + k] = cells[top + k];
            }
            top += n;
        }

        void exchange() {
            int v = pull();
            int w = pull();
            if (!refused) {
                cells[top] = v;
                cells[top + 1] = w;
                top += 2;
            }
        }

        /** All places of an object that was not made become references. */
        void replaceAll(int v, int w) {
            for (int k = 0; k < top; k++) {
                if (cells[k] == v) {
                    cells[k] = w;
                }
            }
            moved = true;
        }

        /** An INSTRUCTION that makes a NEW object makes the one that it made before unusable. */
        void forget(int v) {
            for (int k = 0; k < top; k++) {
                if (cells[k] == v) {
                    cells[k] = NOTHING;
                    moved = true;
                    refused = refused || k >= locals;
                }
            }
        }
    }

    /** What each INSTRUCTION asks of the places and leaves there (4.10.1). */
    private static final class Steps {
        /** Of the opcodes 0 to 15: what they leave. */
        private static final int[] CONSTANTS = {0, 5, 1, 1, 1, 1, 1, 1, 1, 3, 3, 2, 2, 2, 4, 4};
        /** Of the opcodes 96 to 152: digits of what they take, from below, and at last of what they leave. */
        private static final int[] SUMS = {
            111, 333, 222, 444, 111, 333, 222, 444, 111, 333, 222, 444, 111, 333, 222, 444, 111, 333, 222, 444,
            11, 33, 22, 44, 111, 313, 111, 313, 111, 313, 111, 333, 111, 333, 111, 333, 0,
            13, 12, 14, 31, 32, 34, 21, 23, 24, 41, 43, 42, 11, 11, 11, 331, 221, 221, 441, 441};
        /** Of the opcodes 21 to 24 and 54 to 57, 172 to 175 the same. */
        private static final int[] KINDS = {INT, LONG, FLOAT, DOUBLE};
        /** Of the opcodes 46 to 53 and 79 to 86: the array's element; references and bytes are looked at apart. */
        private static final int[] ELEMENTS = {65534, 65535, 65530, 65531, 0, 65532, 65529, 65533};
        /** Of the opcodes 89 to 94: how many places they copy, and under how many. */
        private static final int[] COPIES = {1, 1, 1, 2, 2, 2};
        private static final int[] UNDER = {0, 1, 2, 0, 1, 2};

        private final Types types;
        private final Members members;
        private final Code code;
        private final Places places;

        Steps(Types types, Members members, Code code, Places places) {
            this.types = types;
            this.members = members;
            this.code = code;
            this.places = places;
        }

        void step(int i) {
            int op = code.ops[i];
            int a = code.as[i];
            if (op <= 20) {
                pushConstant(op, a);
            } else if (op <= ALOAD) {
                load(op - 21, a);
            } else if (op <= 53) {
                loadElement(op - 46);
            } else if (op <= ASTORE) {
                store(op - 54, a);
            } else if (op <= 86) {
                storeElement(op - 79);
            } else if (op <= 95) {
                shuffle(op);
            } else if (op == IINC) {
                increase(a);
            } else if (op <= 152) {
                reckon(SUMS[op - 96]);
            } else if (op <= 171) {
                branch(i);
            } else if (op <= 177) {
                leave(op - 172);
            } else if (op <= 181) {
                useField(op, a);
            } else if (op <= 186) {
                invoke(op, a);
            } else if (op <= 189 || op == 197) {
                make(i);
            } else {
                useReference(op, a);
            }
        }

        private void pushConstant(int op, int a) {
            if (op > 17) {
                places.pushType(a);
            } else if (op > 15) {
                places.push(INT);
            } else if (op > 0) {
                places.push(CONSTANTS[op]);
            }
        }

        private void load(int k, int a) {
            int v = places.localAt(a);
            boolean fits = k < KINDS.length ? v == KINDS[k] : Places.isAnyReference(v);
            if (fits) {
                places.push(v);
            } else {
                places.refused = true;
            }
        }

        private void store(int k, int a) {
            if (k < KINDS.length) {
                places.pullKind(KINDS[k]);
                places.setLocal(a, KINDS[k]);
                return;
            }
            int v = places.pull();
            if ((v & 15) != ADDRESS && !Places.isAnyReference(v)) {
                places.refused = true;
            }
            places.setLocal(a, v);
        }

        private void increase(int a) {
            if (places.localAt(a) != INT) {
                places.refused = true;
            }
        }

        private void loadElement(int k) {
            places.pullKind(INT);
            int t = places.pullArray();
            int component = t - ONE_DIMENSION;
            if (ELEMENTS[k] != 0) {
                lookAtArray(t, ELEMENTS[k]);
                places.pushType(ELEMENTS[k]);
            } else if (t < 0) {
                places.push(NULL);
            } else if (Types.isPrimitive(component)) {
                places.refused = true;
            } else {
                places.pushType(component);
            }
        }

        private void storeElement(int k) {
            if (ELEMENTS[k] == 0) {
                places.pullType(OBJECT);
                places.pullKind(INT);
                places.pullType(ONE_DIMENSION + OBJECT);
                return;
            }
            places.pullType(ELEMENTS[k]);
            places.pullKind(INT);
            lookAtArray(places.pullArray(), ELEMENTS[k]);
        }

        private void lookAtArray(int t, int element) {
            boolean fits = t < 0 || t == ONE_DIMENSION + element
                || element == BYTE_TYPE && t == ONE_DIMENSION + BOOLEAN_TYPE;
            places.refused = places.refused || !fits;
        }

        private void shuffle(int op) {
            if (op <= 88) {
                places.drop(op - 86);
            } else if (op <= 94) {
                places.copyUnder(COPIES[op - 89], UNDER[op - 89]);
            } else {
                places.exchange();
            }
        }

        private void reckon(int sum) {
            int taken = sum / 10;
            for (int k = 0; k < 2 && taken > 0; k++) {
                places.pullKind(taken % 10);
                taken /= 10;
            }
            places.push(sum % 10);
        }

        private void branch(int i) {
            int op = code.ops[i];
            if (op == JSR) {
                places.push(16 * (i + 1) + ADDRESS);
            } else if (op == 165 || op == 166) {
                places.pullReference();
                places.pullReference();
            } else if (op <= 164 || Code.isSwitch(op)) {
                places.pullKind(INT);
                if (op >= 159 && op <= 164) {
                    places.pullKind(INT);
                }
            }
        }

        private void leave(int k) {
            int result = code.result;
            boolean fits;
            if (k == 5) {
                fits = result == NO_RESULT && (code.how != CONSTRUCTOR || places.made == 1);
            } else {
                fits = result != NO_RESULT
                    && (k == 4 ? !Types.isPrimitive(result) : Types.placeOf(result) == KINDS[k]);
            }
            if (!fits) {
                places.refused = true;
            } else if (k < 5) {
                places.pullType(result);
            }
        }

        private void useField(int op, int f) {
            int c = members.fieldClasses[f];
            int type = members.fieldTypes[f];
            boolean isPut = op == 179 || op == 181;
            if (isPut) {
                places.pullType(type);
            }
            if (op >= 180) {
                pullOwner(c, isPut && c == code.owner);
            }
            if (!isPut) {
                places.pushType(type);
            }
        }

        private void pullOwner(int c, boolean alsoThis) {
            int last = places.top - 1;
            if (alsoThis && last >= places.locals && places.cells[last] == THIS) {
                places.pull();
            } else {
                places.pullType(c);
            }
        }

        private void invoke(int op, int s) {
            for (int k = members.takenCounts[s] - 1; k >= 0; k--) {
                places.pullType(members.takenOf(s, k));
            }
            int c = members.shapeClasses[s];
            if (members.isConstructor[s]) {
                construct(op, c);
            } else if (op == INVOKESPECIAL) {
                places.pullType(code.owner);
                places.refused = places.refused || !types.mayStand(code.owner, c);
            } else if (op == 182 || op == 185) {
                places.pullType(c);
            }
            if (members.shapeResults[s] != NO_RESULT) {
                places.pushType(members.shapeResults[s]);
            }
        }

        private void construct(int op, int c) {
            int v = places.pull();
            int made = v >> 4;
            if (op == INVOKESPECIAL && (v & 15) == NEW && made < code.count && code.as[made] == c) {
                places.replaceAll(v, Types.placeOf(c));
            } else if (op == INVOKESPECIAL && v == THIS && (c == code.owner || c == types.above[code.owner])) {
                places.replaceAll(v, Types.placeOf(code.owner));
                places.made = 1;
            } else {
                places.refused = true;
            }
        }

        private void make(int i) {
            int op = code.ops[i];
            int a = code.as[i];
            if (op == NEW_OBJECT) {
                places.forget(16 * i + NEW);
                places.push(16 * i + NEW);
                return;
            }
            int lengths = op == 197 ? code.bs[i] : 1;
            for (int k = 0; k < lengths; k++) {
                places.pullKind(INT);
            }
            if (op == 188) {
                places.pushType(ONE_DIMENSION + FIRST_PRIMITIVE + a);
            } else {
                places.pushType(op == 189 ? ONE_DIMENSION + a : a);
            }
        }

        private void useReference(int op, int a) {
            switch (op) {
                case 190:
                    places.pullArray();
                    places.push(INT);
                    break;
                case ATHROW:
                    places.pullType(THROWABLE);
                    break;
                case 192:
                    places.pullType(OBJECT);
                    places.pushType(a);
                    break;
                case 193:
                    places.pullType(OBJECT);
                    places.push(INT);
                    break;
                default:
                    // monitorenter, monitorexit, ifnull and ifnonnull
                    places.pullReference();
                    break;
            }
        }
    }

    /** Follows the ways from one TARGET to the next ones. */
    private static final class Flow {
        private final Types types;
        private final Code code;
        private final Contexts contexts;
        private final Frames frames;
        private final Places places;
        private final Steps steps;

        Flow(Types types, Members members, Code code, Contexts contexts, Frames frames) {
            this.types = types;
            this.code = code;
            this.contexts = contexts;
            this.frames = frames;
            places = new Places(types);
            steps = new Steps(types, members, code, places);
        }

        /** Whether the beginning may be come to. */
        boolean begin() {
            places.begin(code);
            comeTo(0, Contexts.EMPTY);
            return !places.refused;
        }

        /** Whether all ways from a FRAME on to what comes next are kept. */
        boolean follow(int f) {
            int way = frames.ways[f];
            int i = frames.targets[f];
            places.bring(frames, f);
            boolean on = true;
            for (int k = 0; k < code.count && on; k++) {
                for (int r = 0; r < code.rowCount && !places.refused; r++) {
                    if (isHandlerNext(r, i)) {
                        comeToHandler(r, way);
                    }
                }
                places.moved = false;
                steps.step(i);
                on = !places.refused && goesOn(i, way);
                i++;
            }
            return !places.refused;
        }

        /** Whether the FRAMES have to be followed once more; what is there is final then. */
        boolean isInDoubt() {
            places.isFinal = true;
            return places.doubtful;
        }

        /** A handler has been come to already with locals that did not move since. */
        private boolean isHandlerNext(int r, int i) {
            int from = code.rows[4 * r];
            return from <= i && i < code.rows[4 * r + 1] && (places.moved || from == i);
        }

        private void comeToHandler(int r, int way) {
            int type = code.rows[4 * r + 3];
            int caught = type == ANY_CLASS ? THROWABLE : type;
            int locals = places.locals;
            if (locals >= places.end || !types.mayStand(caught, THROWABLE)) {
                places.refused = true;
                return;
            }
            int top = places.top;
            int lowest = places.cells[locals];
            places.cells[locals] = Types.placeOf(caught);
            places.top = locals + 1;
            comeTo(code.rows[4 * r + 2], way);
            places.cells[locals] = lowest;
            places.top = top;
        }

        /** Refuses if there is no way, if what is there has too little in common, or if there is no room. */
        private void comeTo(int target, int way) {
            int f = way == Contexts.NONE ? Contexts.NONE : frames.find(target, way);
            if (f >= 0) {
                places.refused = places.refused || !frames.join(f, places);
            } else if (way == Contexts.NONE || frames.isFull()) {
                places.refused = true;
            } else {
                frames.open(target, way, places);
            }
        }

        /** Comes to all TARGETS that are next; whether the next INSTRUCTION is none and the way just goes on. */
        private boolean goesOn(int i, int way) {
            int op = code.ops[i];
            if (op == JSR) {
                comeTo(code.as[i], wayDown(i + 1, way));
                return false;
            }
            if (op == RET) {
                comeTo(places.localAt(code.as[i]) >> 4, wayBack(code.as[i], way));
                return false;
            }
            for (int k = code.firstSwitched[i]; k < code.upToSwitched[i] && !places.refused; k++) {
                comeTo(code.switched[k], way);
            }
            if (Code.isJump(op)) {
                comeTo(code.as[i], way);
            }
            if (op == GOTO || op >= 170 && op <= 177 || op == ATHROW || places.refused) {
                return false;
            }
            if (i + 1 >= code.count) {
                places.refused = true;
                return false;
            }
            if (!code.isTarget[i + 1]) {
                return true;
            }
            comeTo(i + 1, way);
            return false;
        }

        /** The CONTEXT that a jsr goes on with, or NONE if it refuses. */
        private int wayDown(int address, int way) {
            boolean isKept = address < code.count && contexts.lengths[way] < MOST_ADDRESSES
                && contexts.before(way, address) == Contexts.NONE;
            return isKept ? contexts.with(way, address) : Contexts.NONE;
        }

        /** The CONTEXT that a ret goes on with, or NONE if it refuses. */
        private int wayBack(int local, int way) {
            int v = places.localAt(local);
            return (v & 15) == ADDRESS ? contexts.before(way, v >> 4) : Contexts.NONE;
        }
    }
}
