/** Promise 11, INSTRUCTION by INSTRUCTION: what each asks of what is there, and what it leaves. */
public final class OpcodeTest {
    private static final int ARRAY = 65536;
    private static FlowJudge j;
    private static int a;
    private static int b;
    private static int i;
    private static int error;

    public static void main(String[] args) {
        j = new FlowJudge();
        a = j.add(0, false);
        b = j.add(a, false);
        i = j.add(0, true);
        error = j.add(1, false);
        constants();
        j = again();
        sums();
        conversions();
        j = again();
        locals();
        j = again();
        elements();
        j = again();
        moreElements();
        j = again();
        shuffles();
        j = again();
        moreShuffles();
        j = again();
        jumps();
        j = again();
        returns();
        j = again();
        arrays();
        j = again();
        casts();
        fields();
        invokes();
        special();
        Check.end("OpcodeTest");
    }

    private static FlowJudge again() {
        FlowJudge fresh = new FlowJudge();
        fresh.add(0, false);
        fresh.add(a, false);
        fresh.add(0, true);
        fresh.add(1, false);
        return fresh;
    }

    /** What is there behind the INSTRUCTIONS, in a METHOD of a with 6 locals and 6 places on the stack. */
    private static String after(int how, String text) {
        int end = text.split(";").length + 1;
        j.method(a, how, -1, 6, 6);
        Check.put(j, text + "; 167 " + end + "; " + (how == 2 ? "167 " + end : "177"));
        int count = j.judge();
        if (count < 0) {
            return "refused";
        }
        StringBuilder stack = new StringBuilder();
        for (int k = 0; k < j.frame(count - 1, 2); k++) {
            stack.append(k > 0 ? " " : "").append(j.told(count - 1, 6 + k));
        }
        return stack.toString();
    }

    private static void leaves(String text, String due) {
        Check.same(text, after(0, text), due);
    }

    private static void refuses(String text) {
        leaves(text, "refused");
    }

    private static String ref(int type) {
        return String.valueOf(16 * type + 8);
    }

    private static void constants() {
        leaves("0", "");
        leaves("1", "5");
        for (int op = 2; op <= 8; op++) {
            leaves("" + op, "1");
        }
        leaves("9", "3 7");
        leaves("10", "3 7");
        leaves("11", "2");
        leaves("12", "2");
        leaves("13", "2");
        leaves("14", "4 7");
        leaves("15", "4 7");
        leaves("16 5", "1");
        leaves("17 -5", "1");
        for (int t : new int[] {65528, 65529, 65532, 65533, 65534}) {
            leaves("18 " + t, "1");
        }
        leaves("18 65530", "2");
        leaves("18 " + b, ref(b));
        leaves("18 131071", ref(131071));
        leaves("20 65535", "3 7");
        leaves("20 65531", "4 7");
        leaves("3; 3; 3; 3; 3; 3", "1 1 1 1 1 1");
        refuses("3; 3; 3; 3; 3; 3; 3");
        refuses("3; 3; 3; 3; 3; 9");
        leaves("3; 3; 3; 3; 9", "1 1 1 1 3 7");
    }

    private static final String[] PUSH = {"3", "9", "11", "14"};
    private static final String[] TOLD = {"1", "3 7", "2", "4 7"};

    private static void sums() {
        for (int op = 96; op <= 119; op++) {
            int k = (op - 96) % 4;
            String two = op < 116 ? PUSH[k] + "; " + PUSH[k] : PUSH[k];
            leaves(two + "; " + op, TOLD[k]);
            refuses(op < 116 ? PUSH[(k + 1) % 4] + "; " + PUSH[k] + "; " + op : PUSH[(k + 2) % 4] + "; " + op);
        }
        j = again();
        for (int op = 120; op <= 125; op++) {
            int k = op % 2;
            leaves(PUSH[k] + "; 3; " + op, TOLD[k]);
            refuses(PUSH[k] + "; 9; " + op);
            refuses(PUSH[1 - k] + "; 3; " + op);
        }
        for (int op = 126; op <= 131; op++) {
            int k = op % 2;
            leaves(PUSH[k] + "; " + PUSH[k] + "; " + op, TOLD[k]);
            refuses(PUSH[k] + "; " + PUSH[1 - k] + "; " + op);
        }
        refuses("96");
        refuses("3; 96");
        refuses("1; 3; 96");
        refuses("116");
    }

    private static void conversions() {
        j = again();
        int[] from = {0, 0, 0, 1, 1, 1, 2, 2, 2, 3, 3, 3, 0, 0, 0};
        int[] to = {1, 2, 3, 0, 2, 3, 0, 1, 3, 0, 1, 2, 0, 0, 0};
        for (int op = 133; op <= 147; op++) {
            leaves(PUSH[from[op - 133]] + "; " + op, TOLD[to[op - 133]]);
            refuses(PUSH[(from[op - 133] + 1) % 4] + "; " + op);
        }
        int[] compared = {1, 2, 2, 3, 3};
        for (int op = 148; op <= 152; op++) {
            int k = compared[op - 148];
            leaves(PUSH[k] + "; " + PUSH[k] + "; " + op, "1");
            refuses(PUSH[k] + "; " + PUSH[k - 1] + "; " + op);
        }
    }

    private static void locals() {
        for (int k = 0; k < 4; k++) {
            String put = PUSH[k] + "; " + (54 + k) + " 2; ";
            leaves(put + (21 + k) + " 2", TOLD[k]);
            refuses(put + (21 + (k + 1) % 4) + " 2");
            refuses(put + "25 2");
            refuses(put + (21 + k) + " 3");
            refuses(PUSH[k] + "; " + (54 + (k + 1) % 4) + " 2");
            refuses(PUSH[k] + "; 58 2");
        }
        leaves("1; 58 5; 25 5", "5");
        leaves("18 " + b + "; 58 5; 25 5", ref(b));
        leaves("187 " + b + "; 58 5; 25 5", "9");
        refuses("25 0");
        refuses("21 0");
        refuses("54 0");
        refuses("1; 54 0");
        leaves("3; 54 1; 132 1 -7; 21 1", "1");
        refuses("132 1 1");
        refuses("9; 55 1; 132 1 1");
        refuses("9; 55 1; 132 2 1");
        leaves("3; 54 5", "");
        refuses("9; 55 5");
        leaves("9; 55 4", "");
        refuses("3; 54 6");
        refuses("9; 55 1; 3; 54 1; 22 1");
        refuses("9; 55 1; 3; 54 2; 22 1");
        refuses("9; 55 1; 9; 55 2; 22 1");
        refuses("9; 55 1; 9; 55 0; 22 1");
        leaves("9; 55 1; 3; 54 0; 3; 54 3; 22 1", "3 7");
        Check.same("this is loaded", after(1, "25 0"), ref(a));
        Check.same("THIS is loaded", after(2, "25 0"), "6");
    }

    private static final int[] OF = {65534, 65535, 65530, 65531, 0, 65532, 65529, 65533};
    private static final String[] VALUE = {"3", "9", "11", "14", "1", "3", "3", "3"};
    private static final String[] GOT = {"1", "3 7", "2", "4 7", ref(0), "1", "1", "1"};

    private static void elements() {
        for (int k = 0; k < 8; k++) {
            String array = "18 " + (ARRAY + OF[k]) + "; 3; ";
            leaves(array + (46 + k), GOT[k]);
            leaves(array + VALUE[k] + "; " + (79 + k), "");
            leaves("1; 3; " + (46 + k), k == 4 ? "5" : GOT[k]);
            leaves("1; 3; " + VALUE[k] + "; " + (79 + k), "");
            int other = ARRAY + OF[(k + 1) % 8];
            refuses("18 " + other + "; 3; " + (46 + k));
            refuses("18 " + other + "; 3; " + VALUE[k] + "; " + (79 + k));
            refuses("18 " + (2 * ARRAY + 65534) + "; 3; " + (k == 4 ? "190" : "" + (46 + k)));
        }
    }

    private static void moreElements() {
        leaves("18 " + (ARRAY + 65528) + "; 3; 51", "1");
        leaves("18 " + (ARRAY + 65528) + "; 3; 3; 84", "");
        refuses("18 " + (ARRAY + 65529) + "; 3; 51");
        refuses("18 " + ARRAY + "; 3; 46");
        refuses("18 0; 3; 46");
        refuses("18 0; 3; 50");
        refuses("18 " + (ARRAY + b) + "; 9; 50");
        refuses("18 " + (ARRAY + b) + "; 1; 50");
        leaves("18 " + (ARRAY + b) + "; 3; 50", ref(b));
        leaves("18 " + (3 * ARRAY + b) + "; 3; 50", ref(2 * ARRAY + b));
        leaves("18 " + (2 * ARRAY + 65534) + "; 3; 50", ref(ARRAY + 65534));
        refuses("18 " + (ARRAY + 65534) + "; 3; 50");
        leaves("18 " + (ARRAY + b) + "; 3; 18 0; 83", "");
        leaves("18 " + (ARRAY + b) + "; 3; 18 65536; 83", "");
        leaves("18 " + (2 * ARRAY + 65534) + "; 3; 1; 83", "");
        refuses("18 " + (ARRAY + 65534) + "; 3; 1; 83");
        refuses("18 " + (ARRAY + b) + "; 3; 3; 83");
        refuses("18 " + (ARRAY + b) + "; 3; 187 4; 83");
        refuses("18 0; 3; 1; 83");
        refuses("18 " + (ARRAY + 65534) + "; 3; 9; 79");
        refuses("187 4; 3; 50");
    }

    private static void shuffles() {
        leaves("3; 87", "");
        refuses("87");
        refuses("9; 87");
        leaves("9; 88", "");
        leaves("3; 1; 88", "");
        refuses("3; 88");
        refuses("9; 3; 88");
        leaves("3; 11; 89", "1 2 2");
        refuses("89");
        refuses("9; 89");
        leaves("3; 11; 90", "2 1 2");
        refuses("11; 90");
        refuses("9; 3; 90");
        refuses("3; 9; 90");
        leaves("1; 3; 11; 91", "2 5 1 2");
        leaves("9; 11; 91", "2 3 7 2");
        refuses("3; 11; 91");
        refuses("9; 3; 11; 91");
        refuses("3; 3; 9; 91");
        leaves("3; 11; 92", "1 2 1 2");
        leaves("14; 92", "4 7 4 7");
        refuses("3; 92");
        refuses("9; 3; 92");
        leaves("1; 3; 11; 93", "1 2 5 1 2");
        leaves("3; 9; 93", "3 7 1 3 7");
        refuses("9; 93");
        refuses("9; 9; 93");
        refuses("9; 3; 3; 93");
    }

    private static void moreShuffles() {
        leaves("1; 187 4; 3; 11; 94", "1 2 5 25 1 2");
        leaves("1; 3; 9; 94", "3 7 5 1 3 7");
        leaves("9; 3; 11; 94", "1 2 3 7 1 2");
        leaves("9; 14; 94", "4 7 3 7 4 7");
        refuses("3; 9; 94");
        refuses("9; 3; 9; 94");
        refuses("9; 3; 3; 3; 94");
        refuses("3; 9; 3; 94");
        leaves("3; 11; 95", "2 1");
        refuses("3; 95");
        refuses("9; 95");
        refuses("9; 3; 95");
        refuses("3; 9; 95");
        leaves("3; 3; 3; 3; 3; 11; 95", "1 1 1 1 2 1");
        refuses("3; 3; 3; 3; 3; 3; 89");
        refuses("3; 3; 3; 3; 3; 92");
        refuses("9; 14; 3; 94");
        leaves("187 4; 89", "9 9");
        Check.same("THIS is moved", after(2, "25 0; 3; 95; 90"), "6 1 6");
    }

    private static void jumps() {
        for (int op = 153; op <= 158; op++) {
            Check.same("" + op, Check.judged(j, 0, 2, "3; " + op + " 2; 177"), "0()[] 2()[]");
            Check.same("" + op, Check.judged(j, 0, 2, "1; " + op + " 2; 177"), "refused");
            Check.same("" + op, Check.judged(j, 0, 2, op + " 1; 177"), "refused");
        }
        for (int op = 159; op <= 164; op++) {
            Check.same("" + op, Check.judged(j, 0, 2, "3; 3; " + op + " 3; 177"), "0()[] 3()[]");
            Check.same("" + op, Check.judged(j, 0, 2, "3; 1; " + op + " 3; 177"), "refused");
            Check.same("" + op, Check.judged(j, 0, 2, "1; 3; " + op + " 3; 177"), "refused");
        }
        for (int op = 165; op <= 166; op++) {
            Check.same("" + op, Check.judged(j, 0, 2, "1; 187 4; " + op + " 3; 177"), "0()[] 3()[]");
            Check.same("" + op, Check.judged(j, 0, 2, "1; 3; " + op + " 3; 177"), "refused");
            Check.same("" + op, Check.judged(j, 0, 2, "3; 1; " + op + " 3; 177"), "refused");
        }
        for (int op = 198; op <= 199; op++) {
            Check.same("" + op, Check.judged(j, 0, 2, "187 4; " + op + " 2; 177"), "0()[] 2()[]");
            Check.same("" + op, Check.judged(j, 0, 2, "3; " + op + " 2; 177"), "refused");
        }
        Check.same("THIS is compared", after(2, "25 0; 25 0; 165 3; 25 0; 198 5; 25 0; 199 7"), "");
        for (int op = 170; op <= 171; op++) {
            Check.same("" + op, Check.judged(j, 0, 2, "3; " + op + " > 2; 177"), "0()[] 2()[]");
            Check.same("" + op, Check.judged(j, 0, 2, "9; " + op + " > 2; 177"), "refused");
            Check.same("" + op, Check.judged(j, 0, 2, op + " > 1; 177"), "refused");
        }
    }

    private static void returns() {
        int[] results = {65528, 65529, 65532, 65533, 65534, 65535, 65530, 65531, b, ARRAY + b, -1};
        int[] due = {172, 172, 172, 172, 172, 173, 174, 175, 176, 176, 177};
        String[] push = {"3", "9", "11", "14", "1", "0"};
        for (int k = 0; k < results.length; k++) {
            for (int op = 172; op <= 177; op++) {
                j.method(0, 0, results[k], 0, 2);
                Check.put(j, push[op - 172] + "; " + op);
                Check.same("result " + results[k] + " by " + op, j.judge(), op == due[k] ? 1 : -1);
            }
            j = again();
        }
        returnsOf(b, "18 " + b, 1);
        returnsOf(a, "18 " + b, 1);
        returnsOf(b, "18 " + a, -1);
        returnsOf(i, "18 " + a, 1);
        returnsOf(i, "18 65536", -1);
        returnsOf(2, "18 65536", 1);
        returnsOf(0, "187 0", -1);
        returnsOf(0, "3", -1);
        returnsOf(0, "0", -1);
        j.method(0, 0, 65534, 0, 2);
        Check.put(j, "1; 172");
        Check.same("ireturn of null", j.judge(), -1);
        j.method(0, 0, 65534, 0, 2);
        Check.put(j, "11; 3; 172");
        Check.same("more on the stack is fine", j.judge(), 1);
    }

    private static void returnsOf(int result, String push, int due) {
        j.method(0, 0, result, 0, 2);
        Check.put(j, push + "; 176");
        Check.same("areturn of " + push + " as " + result, j.judge(), due);
    }

    private static void arrays() {
        for (int k = 0; k < 8; k++) {
            leaves("3; 188 " + k, ref(ARRAY + 65528 + k));
        }
        refuses("188 0");
        refuses("9; 188 0");
        leaves("3; 189 " + b, ref(ARRAY + b));
        leaves("3; 189 " + (ARRAY + 65534), ref(2 * ARRAY + 65534));
        leaves("3; 189 " + 254 * ARRAY, ref(255 * ARRAY));
        refuses("1; 189 " + b);
        leaves("3; 197 " + 3 * ARRAY + " 1", ref(3 * ARRAY));
        leaves("11; 3; 3; 3; 197 " + 3 * ARRAY + " 3", "2 " + ref(3 * ARRAY));
        refuses("3; 3; 197 " + 3 * ARRAY + " 3");
        refuses("3; 11; 3; 197 " + 3 * ARRAY + " 3");
        leaves("3; 188 0; 190", "1");
        leaves("18 65536; 190", "1");
        leaves("1; 190", "1");
        refuses("18 0; 190");
        refuses("3; 190");
        refuses("187 0; 190");
        refuses("190");
    }

    private static void casts() {
        leaves("18 0; 192 " + b, ref(b));
        leaves("1; 192 " + b, ref(b));
        leaves("18 65536; 192 " + (ARRAY + 65534), ref(ARRAY + 65534));
        refuses("187 4; 192 4");
        refuses("3; 192 4");
        refuses("192 4");
        leaves("18 0; 193 " + b, "1");
        leaves("1; 193 " + b, "1");
        refuses("187 4; 193 4");
        refuses("9; 193 4");
        Check.same("THIS is not cast", after(2, "25 0; 192 4"), "refused");
        Check.same("nor asked", after(2, "25 0; 193 4"), "refused");
        for (int op = 194; op <= 195; op++) {
            leaves("18 0; " + op, "");
            leaves("1; " + op, "");
            leaves("187 0; " + op, "");
            Check.same("THIS by " + op, after(2, "25 0; " + op), "");
            refuses("3; " + op);
            refuses("" + op);
        }
        Check.same("athrow", Check.judged(j, 0, 1, "18 1; 191"), "0()[]");
        Check.same("athrow below", Check.judged(j, 0, 1, "18 " + error + "; 191"), "0()[]");
        Check.same("athrow null", Check.judged(j, 0, 1, "1; 191"), "0()[]");
        Check.same("athrow Object", Check.judged(j, 0, 1, "18 0; 191"), "refused");
        Check.same("athrow an interface", Check.judged(j, 0, 1, "18 2; 191"), "refused");
        Check.same("athrow NEW", Check.judged(j, 0, 1, "187 1; 191"), "refused");
        Check.same("athrow int", Check.judged(j, 0, 1, "3; 191"), "refused");
    }

    private static void fields() {
        j = again();
        int ofInt = j.field(b, 65528);
        int ofLong = j.field(b, 65535);
        int ofB = j.field(a, b);
        int ofFace = j.field(i, i);
        leaves("178 " + ofInt, "1");
        leaves("178 " + ofLong, "3 7");
        leaves("178 " + ofB, ref(b));
        leaves("3; 179 " + ofInt, "");
        leaves("9; 179 " + ofLong, "");
        refuses("3; 179 " + ofLong);
        leaves("1; 179 " + ofB, "");
        leaves("18 " + b + "; 179 " + ofB, "");
        refuses("18 " + a + "; 179 " + ofB);
        refuses("187 " + b + "; 179 " + ofB);
        leaves("18 0; 179 " + ofFace, "");
        refuses("18 65536; 179 " + ofFace);
        leaves("18 " + b + "; 180 " + ofInt, "1");
        leaves("1; 180 " + ofLong, "3 7");
        leaves("18 " + b + "; 180 " + ofB, ref(b));
        refuses("18 " + a + "; 180 " + ofInt);
        refuses("187 " + b + "; 180 " + ofInt);
        refuses("3; 180 " + ofInt);
        leaves("18 0; 180 " + ofFace, ref(i));
        leaves("18 " + b + "; 9; 181 " + ofLong, "");
        leaves("1; 1; 181 " + ofB, "");
        refuses("18 " + a + "; 9; 181 " + ofLong);
        refuses("187 " + a + "; 1; 181 " + ofB);
        refuses("1; 181 " + ofB);
        Check.same("putfield of THIS", after(2, "25 0; 1; 181 " + ofB), "");
        Check.same("putfield of THIS, another CLASS's", after(2, "25 0; 3; 181 " + ofInt), "refused");
        Check.same("putfield of THIS, another value", after(2, "25 0; 3; 181 " + ofB), "refused");
        Check.same("putfield of THIS, an interface's", after(2, "25 0; 1; 181 " + ofFace), "refused");
        int above = j.field(0, 65534);
        Check.same("putfield of THIS, its superclass's", after(2, "25 0; 3; 181 " + above), "refused");
        Check.same("getfield of THIS", after(2, "25 0; 180 " + ofB), "refused");
        Check.same("THIS as a value", after(2, "25 0; 25 0; 181 " + ofB), "refused");
    }

    private static void invokes() {
        j = again();
        int plain = j.shape(b, -1, false);
        int full = j.shape(a, 65535, false);
        j.takes(65529);
        j.takes(65531);
        j.takes(b);
        int face = j.shape(i, ARRAY + 65534, false);
        j.takes(i);
        for (int op : new int[] {182, 185}) {
            leaves("18 " + b + "; " + op + " " + plain, "");
            leaves("1; " + op + " " + plain, "");
            refuses("18 " + a + "; " + op + " " + plain);
            refuses("187 " + b + "; " + op + " " + plain);
            refuses(op + " " + plain);
            leaves("18 " + b + "; 3; 14; 18 " + b + "; " + op + " " + full, "3 7");
            refuses("18 " + b + "; 3; 14; 18 " + a + "; " + op + " " + full);
            refuses("18 " + b + "; 14; 3; 1; " + op + " " + full);
            leaves("18 0; 18 1; " + op + " " + face, ref(ARRAY + 65534));
            refuses("18 65536; 18 1; " + op + " " + face);
            refuses("18 0; 18 65536; " + op + " " + face);
        }
        for (int op : new int[] {184, 186}) {
            leaves(op + " " + plain, "");
            leaves("3; 14; 1; " + op + " " + full, "3 7");
            refuses("3; 14; " + op + " " + full);
            leaves("18 0; " + op + " " + face, ref(ARRAY + 65534));
            refuses("187 4; " + op + " " + face);
        }
        j = again();
        int constructor = j.shape(a, -1, true);
        for (int op : new int[] {182, 184, 185, 186}) {
            refuses("187 " + a + "; " + op + " " + constructor);
            refuses("18 " + a + "; " + op + " " + constructor);
        }
        leaves("187 " + a + "; 183 " + constructor, "");
        Check.same("what is not come to is not asked",
            Check.judged(j, 0, 1, "177; 184 " + constructor + "; 177"), "0()[]");
        Check.same("THIS as a receiver", after(2, "25 0; 182 " + j.shape(0, -1, false)), "refused");
    }

    /** invokespecial of a SHAPE that is no constructor's. */
    private static void special() {
        j = again();
        int above = j.shape(0, -1, false);
        int own = j.shape(a, 65534, false);
        int below = j.shape(b, -1, false);
        int face = j.shape(i, -1, false);
        int other = j.shape(1, -1, false);
        Check.same("its own", after(1, "25 0; 183 " + own), "1");
        Check.same("its superclass's", after(1, "25 0; 183 " + above), "");
        Check.same("one below it", after(1, "25 0; 183 " + below), "refused");
        Check.same("an interface's", after(1, "25 0; 183 " + face), "");
        Check.same("another CLASS's", after(1, "25 0; 183 " + other), "refused");
        Check.same("of null", after(1, "1; 183 " + above), "");
        Check.same("of one below", after(1, "18 " + b + "; 183 " + above), "");
        Check.same("of one above", after(1, "18 0; 183 " + above), "refused");
        Check.same("of another one", after(1, "18 1; 183 " + face), "refused");
        Check.same("of THIS", after(2, "25 0; 183 " + own), "refused");
        Check.same("of NEW", after(1, "187 " + a + "; 183 " + own), "refused");
        Check.same("of nothing", after(1, "183 " + own), "refused");
        Check.same("in a static METHOD", after(0, "18 " + a + "; 183 " + own), "1");
    }
}
