/**
 * 3 JUDGED, sentence by sentence: what is just inside a boundary is kept; what is just outside of it is
 * refused, and the FRAMES that were there before are gone then.
 */
public final class JudgedEdgesTest {
    private static final int MAX = Integer.MAX_VALUE;

    public static void main(String[] args) {
        localsThatThereAre();
        instructionsThatThereAre();
        rowsThatThereAre();
        switchesWithTargets();
        argumentsInLocals();
        theBeginning();
        smallOnesAreInt();
        widePlaces();
        callsOfSubroutines();
        returnsFromSubroutines();
        addressesAreMoved();
        addressesAreNotUsed();
        localsInCommon();
        stacksInCommon();
        heights();
        oneContextAlone();
        arraysForInterfaces();
        arraysInCommonForInterfaces();
        arraysOfOneContext();
        placesOfTheStack();
        operandsThatAreThere();
        newObjects();
        constructorsOfNew();
        constructorsOfThis();
        specialOfOthers();
        constructorsAreSpecial();
        fieldsOfThis();
        returnsOfConstructors();
        jumpsOnReferences();
        handlersOfThrowables();
        handlersSeeWhatIsAhead();
        handlersOfConstructors();
        beyondTheLastOne();
        words();
        Check.end("JudgedEdgesTest");
    }

    /*
     * CLASSES: 4, 5 below 4, 6 below 5, 7 an interface, 8 below 1, 9 below 8, 10 below 4, 11 an interface.
     * FIELDS (CLASS TYPE): 0 (4 int) 1 (4 4) 2 (5 int) 3 (0 int) 4 (7 int) 5 (4 7) 6 (4 long) 7 (4 7[]) 8 (4 5) 9 (4 0).
     * SHAPES: constructors' 0 of 0, 1 of 4, 2 of 5, 3 of 6, 4 of 4 that takes int;
     * others 5 of 0, 6 of 4, 7 of 5, 8 of 7, 9 of 10, 10 of 4 that takes 7 and gives long, 11 of 1, 12 of 11.
     */
    private static FlowJudge world() {
        FlowJudge j = new FlowJudge();
        j.add(0, false);
        j.add(4, false);
        j.add(5, false);
        j.add(0, true);
        j.add(1, false);
        j.add(8, false);
        j.add(4, false);
        j.add(0, true);
        int[][] fields = {
            {4, 65534}, {4, 4}, {5, 65534}, {0, 65534}, {7, 65534}, {4, 7}, {4, 65535}, {4, 65536 + 7}, {4, 5}, {4, 0},
        };
        for (int[] f : fields) {
            j.field(f[0], f[1]);
        }
        j.shape(0, -1, true);
        j.shape(4, -1, true);
        j.shape(5, -1, true);
        j.shape(6, -1, true);
        j.shape(4, -1, true);
        j.takes(65534);
        for (int c : new int[] {0, 4, 5, 7, 10}) {
            j.shape(c, -1, false);
        }
        j.shape(4, 65535, false);
        j.takes(7);
        j.shape(1, -1, false);
        j.shape(11, -1, false);
        return j;
    }

    /** A METHOD that is kept, then one that is refused, on one object. */
    private static void edge(String sentence, String inside, String outside) {
        FlowJudge j = world();
        String kept = Check.judged(j, inside);
        Check.yes(sentence + ": " + inside + " is kept", kept.startsWith("0()["));
        Check.yes(sentence + ": and has FRAMES", j.frame(0, 0) == 0 && j.digest() != 7);
        Check.same(sentence, Check.judged(j, outside), "refused");
        Check.same(sentence + ": once more", Check.judged(j, inside), kept);
    }

    /** What of X is kept, and what is refused. */
    private static void edges(String sentence, String method, String[] inside, String[] outside) {
        for (String in : inside) {
            for (String out : outside) {
                edge(sentence, method.replace("X", in), method.replace("X", out));
            }
        }
    }

    private static String[] of(String... texts) {
        return texts;
    }

    private static void due(String sentence, String method, String frames) {
        Check.same(sentence + ": " + method, Check.judged(world(), method), frames);
    }

    // ---- First

    /** "a local of which a place is not below those that there are", also where none comes to. */
    private static void localsThatThereAre() {
        String say = "a place that is not there";
        for (int op : new int[] {21, 23, 25, 54, 56, 58, 132, 169}) {
            for (int locals : new int[] {1, 2, 200}) {
                String method = "0 0 -1 " + locals + " 1 / 177; " + op + " X";
                edges(say, method, of("0", "" + (locals - 1)), of("" + locals, "" + (locals + 1), "" + MAX));
            }
            edge(say, "0 0 -1 1 1 / 177; " + op + " 0", "0 0 -1 0 1 / 177; " + op + " 0");
        }
        for (int op : new int[] {22, 24, 55, 57}) {
            for (int locals : new int[] {2, 3, 200}) {
                String method = "0 0 -1 " + locals + " 1 / 177; " + op + " X";
                edges(say, method, of("0", "" + (locals - 2)), of("" + (locals - 1), "" + locals, "" + MAX));
            }
            edge(say, "0 0 -1 2 1 / 177; " + op + " 0", "0 0 -1 1 1 / 177; " + op + " 0");
            edge(say, "0 0 -1 2 1 / 177; " + op + " 0", "0 0 -1 0 1 / 177; " + op + " 0");
        }
    }

    /** "an INSTRUCTION that is none is jumped to"; "no INSTRUCTION". */
    private static void instructionsThatThereAre() {
        for (int op = 153; op <= 199; op++) {
            if (op <= 168 || op >= 198) {
                edges("a jump", "0 0 -1 0 1 / 177; 177; " + op + " X", of("0", "1", "2"), of("3", "4", "" + MAX));
            }
        }
        edges("the first one jumps", "0 0 -1 0 1 / 167 X; 177", of("0", "1"), of("2", "" + MAX));
        edges("the first one jumps", "0 0 -1 0 1 / 168 X; 177", of("1"), of("2", "" + MAX));
        edge("no INSTRUCTION", "0 0 -1 0 0 / 177", "0 0 -1 0 0 /");
        edge("no INSTRUCTION, but ROWS", "0 0 -1 0 0 / 177", "0 0 -1 0 0 / : 0 1 0 -1");
    }

    /** "a ROW's from, up to, which may be behind the last one, or handler; from not below up to". */
    private static void rowsThatThereAre() {
        String method = "0 0 -1 0 1 / 177; 177; 177; : X -1";
        edges("from", method, of("0 3 2", "1 3 0", "2 3 0"), of("3 3 0", "3 4 0", "4 5 0", MAX + " " + MAX + " 0"));
        edges("up to", method, of("1 2 0", "1 3 0"), of("1 4 0", "1 5 0", "1 " + MAX + " 0"));
        edges("handler", method, of("1 2 0", "1 2 2"), of("1 2 3", "1 2 4", "1 2 " + MAX));
        edges("from below up to", method, of("1 2 0", "2 3 0"), of("1 1 0", "2 1 0", "0 0 0", "2 0 0"));
        edges("the last of some ROWS", "0 0 -1 0 1 / 177; 177; : 1 2 0 -1; : 1 2 1 -1; : X", of("1 2 0 1"),
            of("1 3 0 1", "1 2 2 1", "2 2 0 1"));
    }

    /** "a switch without TARGETS"; its TARGETS are jumped to. */
    private static void switchesWithTargets() {
        for (int op = 170; op <= 171; op++) {
            edges("a switch", "0 0 -1 0 1 / 177; " + op + " X", of("> 0", "> 1", "> 0 1 0"),
                of("", "> 2", "> 0 2", "> 2 0", "> " + MAX));
            edges("the second switch", "0 0 -1 0 1 / 177; " + op + " > 0; " + op + " X; 0", of("> 0", "> 3"), of("", "> 4"));
            edges("the first switch", "0 0 -1 0 1 / 177; " + op + " X; " + op + " > 3; 0", of("> 0", "> 3"), of("", "> 4"));
        }
    }

    /** "arguments (this with them) of more places than there are locals". */
    private static void argumentsInLocals() {
        String say = "arguments in locals";
        edge(say, "0 0 -1 0 0 / 177", "0 0 -1 0 0 65534 / 177");
        edge(say, "0 0 -1 1 0 65534 / 177", "0 0 -1 1 0 65535 / 177");
        edge(say, "0 0 -1 2 0 65535 / 177", "0 0 -1 2 0 65535 65534 / 177");
        edge(say, "0 0 -1 2 0 65531 / 177", "0 0 -1 1 0 65531 / 177");
        edge(say, "0 0 -1 1 0 131071 / 177", "0 0 -1 0 0 131071 / 177");
        edge(say, "4 1 -1 1 0 / 177", "4 1 -1 0 0 / 177");
        edge(say, "4 1 -1 2 0 65534 / 177", "4 1 -1 1 0 65534 / 177");
        edge(say, "4 1 -1 3 0 65535 / 177", "4 1 -1 2 0 65535 / 177");
        edge(say, "0 2 -1 1 0 / 177", "0 2 -1 0 0 / 177");
        edge(say, "4 2 -1 1 1 / 1; 191", "4 2 -1 0 1 / 1; 191");
        edge(say, "4 2 -1 3 1 65531 / 1; 191", "4 2 -1 2 1 65531 / 1; 191");
    }

    // ---- what is there

    /** "At the beginning locals are this .., then the arguments; the others are nothing ..; the stack is empty". */
    private static void theBeginning() {
        edge("this", "4 1 -1 1 1 / 25 0; 87; 177", "4 0 -1 1 1 / 25 0; 87; 177");
        edge("this is of the METHOD's CLASS", "5 1 4 1 1 / 25 0; 176", "4 1 5 1 1 / 25 0; 176");
        edge("an argument behind this", "4 1 -1 2 1 65534 / 21 1; 87; 177", "4 1 -1 2 1 65534 / 21 0; 87; 177");
        edge("an argument without this", "4 0 -1 2 1 65534 / 21 0; 87; 177", "4 0 -1 2 1 65534 / 21 1; 87; 177");
        edge("the others are nothing", "4 0 -1 3 1 65534 4 / 25 1; 87; 177", "4 0 -1 3 1 65534 4 / 25 2; 87; 177");
        edge("the stack is empty", "0 0 -1 0 1 / 1; 87; 177", "0 0 -1 0 1 / 87; 177");
        edge("THIS, but of CLASS 0", "0 2 -1 1 1 / 25 0; 180 3; 87; 177", "4 2 -1 1 1 / 25 0; 180 3; 87; 177");
        due("THIS", "4 2 -1 2 1 / 1; 191", "0()[6,0]");
        due("of CLASS 0 it is made", "0 2 -1 2 1 / 1; 191", "0()[8,0]!");
        due("no constructor", "0 1 -1 2 1 / 1; 191", "0()[8,0]");
    }

    /** "boolean, char, byte and short are int". */
    private static void smallOnesAreInt() {
        for (int t : new int[] {65528, 65529, 65532, 65533, 65534}) {
            for (int other : new int[] {65530, 65535, 65531, 0}) {
                edge("an int", "0 0 -1 2 1 " + t + " / 21 0; 87; 177", "0 0 -1 2 1 " + other + " / 21 0; 87; 177");
                edge("an int's result", "0 0 " + t + " 0 2 / 3; 172", "0 0 " + other + " 0 2 / 3; 172");
            }
        }
    }

    /** "long or double (with the place behind it)". */
    private static void widePlaces() {
        edges("a long", "0 0 -1 3 2 65535 / X; 177", of("22 0; 88"), of("22 1; 88", "21 0; 87", "21 1; 87", "24 0; 88"));
        edges("a double", "0 0 -1 3 2 65531 / X; 177", of("24 0; 88"), of("24 1; 88", "22 0; 88", "25 1; 87"));
        edges("both places are written over", "0 0 -1 3 2 65535 / X; 22 0; 88; 177", of("3; 54 2"),
            of("3; 54 0", "3; 54 1", "9; 55 1", "1; 58 1", "1; 58 0"));
        edges("the place ahead is kept", "0 0 -1 4 2 65534 65535 / X; 21 0; 87; 177", of("9; 55 1", "3; 54 1", "3; 54 2"),
            of("9; 55 0"));
    }

    // ---- CONTEXTS

    private static String calls(int n) {
        StringBuilder text = new StringBuilder();
        for (int k = 1; k <= n; k++) {
            text.append("168 ").append(k).append("; ");
        }
        return text + "177";
    }

    /** "it refuses if the CONTEXT has that ADDRESS already, if it would have more than 16, or if there is no .. behind it". */
    private static void callsOfSubroutines() {
        edge("that ADDRESS already", "0 0 -1 0 20 / 168 1; 168 2; 177", "0 0 -1 0 20 / 168 1; 168 1; 177");
        edge("that ADDRESS already", "0 0 -1 0 20 / 168 1; 177", "0 0 -1 0 20 / 168 0; 177");
        edge("returned from, then called again", "0 0 -1 2 1 / 168 3; 168 3; 177; 58 0; 169 0",
            "0 0 -1 2 1 / 168 3; 168 3; 177; 58 0; 168 3; 169 0");
        edge("by itself, from within", "0 0 -1 2 1 / 3; 54 1; 168 5; 177; 0; 58 0; 21 1; 153 6; 169 0",
            "0 0 -1 2 1 / 3; 54 1; 168 5; 177; 0; 58 0; 21 1; 153 2; 169 0");
        for (int stack : new int[] {17, 200}) {
            edge("16 of them", "0 0 -1 0 " + stack + " / " + calls(16), "0 0 -1 0 " + stack + " / " + calls(17));
            edge("15 of them", "0 0 -1 0 " + stack + " / " + calls(15), "0 0 -1 0 " + stack + " / " + calls(17));
        }
        edge("an INSTRUCTION behind it", "0 0 -1 0 1 / 167 2; 177; 168 1; 0", "0 0 -1 0 1 / 167 2; 177; 168 1");
        edge("if it is come to", "0 0 -1 0 1 / 177; 168 0", "0 0 -1 0 1 / 167 1; 168 0");
        due("a loop goes by the same ADDRESS", "0 0 -1 1 1 / 168 2; 167 0; 58 0; 169 0", "0()[0] 1()[26] 2(1)[0|26]");
    }

    /** "ret of a local that is an ADDRESS of the CONTEXT goes on behind its jsr ..; of another one it refuses". */
    private static void returnsFromSubroutines() {
        String once = "0 0 -1 3 3 4 / 168 2; 177; X";
        edges("an ADDRESS", once, of("58 1; 169 1", "89; 58 1; 58 2; 169 2", "58 0; 169 0"),
            of("58 1; 169 0", "58 1; 169 2", "87; 3; 54 1; 169 1", "87; 1; 58 1; 169 1", "87; 187 4; 58 1; 169 1",
                "58 1; 3; 54 1; 169 1", "87; 9; 55 1; 169 1", "87; 9; 55 1; 169 2"));
        edge("of the CONTEXT", "0 0 -1 2 1 / 168 2; 177; 58 0; 169 0", "0 0 -1 2 1 / 168 2; 169 0; 58 0; 169 0");
        edge("of the CONTEXT now", "0 0 -1 2 1 / 168 3; 168 6; 177; 58 0; 169 0; 0; 58 1; 169 1",
            "0 0 -1 2 1 / 168 3; 168 6; 177; 58 0; 169 0; 0; 58 1; 169 0");
        String twice = "0 0 -1 2 1 / 168 2; 177; 58 0; 168 5; 169 0; 58 1; 169 X";
        due("the inner one", twice.replace("X", "1"),
            "0()[0,0] 1()[26,74] 2(1)[0,0|26] 4(1)[26,74] 5(1,4)[26,0|74]");
        due("the outer one", twice.replace("X", "0"), "0()[0,0] 1()[26,74] 2(1)[0,0|26] 5(1,4)[26,0|74]");
        edge("the outer one returns from both", "0 0 -1 2 1 / 168 2; 177; 58 0; 168 5; 177; 58 1; 169 0",
            "0 0 -1 2 1 / 168 2; 169 1; 58 0; 168 5; 177; 58 1; 169 0");
        edge("a CLASS is no ADDRESS", "0 0 -1 1 1 / 168 2; 177; 58 0; 169 0", "0 1 -1 1 1 / 169 0");
    }

    /** "An ADDRESS can be stored by astore, and be moved as 6.5's dup and the like move one place". */
    private static void addressesAreMoved() {
        String moved = "0 0 -1 3 6 / 168 2; 177; X; 177";
        edges("moved", moved,
            of("58 0", "87", "3; 88", "89", "3; 95", "3; 95; 90", "3; 3; 91", "3; 92", "3; 3; 93", "3; 3; 3; 94", "9; 93",
                "3; 9; 94", "89; 88", "89; 95"),
            of("54 0", "55 0", "56 0", "57 0", "88", "95", "90", "91", "92"));
        due("as one place", "0 0 -1 1 5 / 168 2; 177; 9; 93; 167 5; 167 5", "0()[0] 2(1)[0|26] 5(1)[0|3,7,26,3,7]");
    }

    /** ".. no more". */
    private static void addressesAreNotUsed() {
        String used = "4 1 0 3 6 / 168 2; 177; X; 1; 176";
        edges("used", used.replace("168 2; 177", "168 3; 1; 176"), of("87", "58 1"),
            of("25 0; 95; 181 9", "176", "191", "190; 87", "192 0; 87", "193 0; 87", "194", "195", "198 4", "199 4",
                "89; 165 5", "89; 166 5", "153 4", "179 9", "180 3; 87", "3; 181 3", "182 5", "183 6", "184 10; 88", "185 8",
                "3; 50; 87", "3; 1; 83", "3; 46; 87", "3; 3; 79", "58 1; 25 1; 87", "58 1; 21 1; 87", "58 1; 132 1 1",
                "188 0; 87", "116; 87", "1; 95; 165 6", "170 > 4"));
        edge("as an element", "0 0 -1 1 4 / 168 2; 177; 18 65536; 95; 3; 95; 88; 87; 177",
            "0 0 -1 1 4 / 168 2; 177; 18 65536; 95; 3; 95; 83; 177");
    }

    // ---- what all ways have in common

    /** Local 0 comes with one value by one way and with another by the other one. */
    private static String both(String one, String other, String use) {
        return "4 0 -1 4 3 / 3; 153 5; " + one + "; 167 7; " + other + "; " + use + "; 177";
    }

    /** "two TYPES: the first superclass that both have (Object if one is an interface)" and so on. */
    private static void localsInCommon() {
        String b = "18 5; 58 0";
        String d = "18 10; 58 0";
        edge("sisters", both(b, d, "25 0; 179 1"), both(b, d, "25 0; 179 8"));
        edge("a CLASS and one above it", both("18 6; 58 0", b, "25 0; 179 8"), both("18 4; 58 0", b, "25 0; 179 8"));
        edge("an interface", both("18 7; 58 0", b, "25 0; 179 9"), both("18 7; 58 0", b, "25 0; 179 1"));
        edge("null and a TYPE", both("1; 58 0", b, "25 0; 179 8"), both("1; 58 0", b, "25 0; 190; 87"));
        edge("two nulls", both("1; 58 0", "1; 58 0", "25 0; 190; 87"), both("1; 58 0", "3; 54 0", "25 0; 87"));
        String[] kinds = {"3; 54 0", "11; 56 0", "9; 55 0", "14; 57 0", "1; 58 0", "187 4; 58 0"};
        String[] uses = {"21 0; 87", "23 0; 87", "22 0; 88", "24 0; 88", "25 0; 87", "25 0; 87"};
        for (int k = 0; k < kinds.length; k++) {
            for (int m = 0; m < kinds.length; m++) {
                boolean keeps = k == m && k < 5;
                String kept = both(kinds[k], kinds[m], keeps ? uses[k] : "0; 0");
                for (String use : uses) {
                    if (!keeps) {
                        edge("kinds that differ", kept, both(kinds[k], kinds[m], use));
                    }
                }
                Check.yes("kinds", !keeps || !Check.judged(world(), kept).equals("refused"));
            }
        }
        due("a long at the very beginning", "0 0 -1 2 2 65535 / 3; 153 0; 177", "0()[3,7]");
        due("a double at the very beginning", "0 0 -1 3 2 65531 / 3; 54 2; 3; 153 0; 177", "0()[4,7,0]");
        due("what is jumped to by the first one alone", "0 0 -1 1 1 65534 / 167 3; 11; 56 0; 3; 153 1; 177",
            "0()[1] 1()[0] 3()[0]");
        edge("a long of which one place is another", both("9; 55 1", "9; 55 1", "22 1; 88"),
            both("9; 55 1", "3; 54 2", "22 1; 88"));
        edge("the place behind it", both("9; 55 1", "3; 54 3", "0; 0"), both("9; 55 0", "9; 55 1", "22 1; 88"));
        edge("arrays", both("18 65541; 58 0", "18 65546; 58 0", "25 0; 3; 50; 179 1"),
            both("18 65541; 58 0", "18 65546; 58 0", "25 0; 3; 50; 179 8"));
        edge("arrays of int", both("18 131070; 58 0", "18 131070; 58 0", "25 0; 3; 46; 87"),
            both("18 131070; 58 0", "18 131071; 58 0", "25 0; 3; 46; 87"));
        edge("arrays of arrays", both("18 131077; 58 0", "18 65541; 58 0", "25 0; 3; 50; 179 9"),
            both("18 131077; 58 0", "18 65541; 58 0", "25 0; 3; 50; 190; 87"));
        edge("one less of a primitive", both("18 196606; 58 0", "18 196607; 58 0", "25 0; 190; 87"),
            both("18 131070; 58 0", "18 131071; 58 0", "25 0; 190; 87"));
        edge("an array and another TYPE", both("18 65540; 58 0", "18 4; 58 0", "25 0; 179 9"),
            both("18 65540; 58 0", "18 4; 58 0", "25 0; 190; 87"));
    }

    private static String bothOnStack(String one, String other, String use) {
        return "4 0 -1 4 3 / 3; 153 4; " + one + "; 167 5; " + other + "; " + use + "; 177";
    }

    /** "So on the stack, where that last refuses". */
    private static void stacksInCommon() {
        String[] kinds = {"3", "11", "9", "14", "1", "187 4", "18 5", "18 65540"};
        for (int k = 0; k < kinds.length; k++) {
            String drop = k == 2 || k == 3 ? "88" : "87";
            for (int m = 0; m < kinds.length; m++) {
                boolean keeps = k == m && k != 5 || k != m && k != 5 && m != 5 && k > 3 && m > 3;
                String method = bothOnStack(kinds[k], kinds[m], drop);
                if (keeps) {
                    edge("on the stack", method, bothOnStack(kinds[k], k == 0 ? "11" : "3", drop));
                } else {
                    edge("on the stack", bothOnStack("3", "4", "87"), method);
                }
            }
        }
        edge("a TYPE and null", bothOnStack("1", "18 5", "179 8"), bothOnStack("1", "18 4", "179 8"));
        edge("sisters", bothOnStack("18 5", "18 10", "179 1"), bothOnStack("18 5", "18 10", "179 8"));
        edge("long and double below", "0 0 -1 0 4 / 9; 3; 153 3; 88; 177",
            "0 0 -1 0 4 / 3; 153 4; 9; 167 5; 14; 3; 87; 88; 177");
    }

    /** ".. as does another height". */
    private static void heights() {
        edges("another height", "0 0 -1 0 4 / 3; 153 4; X; 167 5; 3; 177", of("3"), of("0", "9"));
        edge("in a loop", "0 0 -1 0 9 / 3; 153 0; 177", "0 0 -1 0 9 / 3; 3; 153 0; 177");
        edge("in a loop, down", "0 0 -1 0 9 / 3; 167 2; 3; 153 2; 177", "0 0 -1 0 9 / 3; 167 2; 87; 3; 153 2; 177");
        edge("by a handler", "0 0 -1 0 9 / 0; 177; 177; : 0 1 2 -1", "0 0 -1 0 9 / 0; 0; 177; : 0 1 2 -1");
        edge("two are less than three", "0 0 -1 0 9 / 3; 3; 3; 153 4; 177", "0 0 -1 0 9 / 3; 3; 3; 153 0; 177");
    }

    /** "a TARGET is come to, with one CONTEXT, with what all ways to it have in common". */
    private static void oneContextAlone() {
        String kept = "0 0 -1 2 2 / 3; 54 1; 168 8; 132 1 1; 11; 56 1; 168 8; 177; 58 0; X; 169 0";
        due("each CONTEXT has its own", kept.replace("X", "0"),
            "0()[0,0] 3()[58,1] 7()[122,2] 8(3)[0,1|58] 8(7)[58,2|122]");
        edges("each CONTEXT has its own", kept, of("0"), of("132 1 1", "23 1; 87"));
        edge("other heights in other CONTEXTS", "0 0 -1 1 3 / 168 4; 3; 168 4; 177; 58 0; 169 0",
            "0 0 -1 1 3 / 3; 153 3; 3; 168 5; 177; 58 0; 169 0");
    }

    /** "or the other one is Object or an interface (an array: Object, 2 or 3 alone)". */
    private static void arraysForInterfaces() {
        edges("for an interface", "4 0 -1 1 2 / X; 179 5; 177", of("1", "18 0", "18 4", "18 7", "18 11", "18 2"),
            of("18 65536", "18 65543", "18 131070", "3; 188 6", "3; 189 7", "187 4", "3"));
        edges("for arrays of an interface", "4 0 -1 1 2 / X; 179 7; 177", of("1", "18 65536", "18 65540", "18 65543"),
            of("18 131072", "18 131079", "18 131070", "18 0", "18 7"));
        edges("as a result", "4 0 7 1 1 / X; 176", of("1", "18 0", "18 7", "18 2"), of("18 65536", "18 131070"));
        edges("as a result", "4 0 2 1 1 / X; 176", of("1", "18 0", "18 7", "18 65536", "18 131070"), of("3", "187 4"));
        edges("as a receiver", "4 0 -1 1 1 / X; 185 8; 177", of("1", "18 0", "18 4"), of("18 65536", "18 65543"));
        edges("as a field's", "4 0 -1 1 1 / X; 180 4; 87; 177", of("1", "18 0", "18 4"), of("18 65536", "18 65543"));
        edges("as an argument", "4 0 -1 1 2 / X; 184 10; 177", of("1", "18 0", "18 4"), of("18 65536", "18 65543"));
        edges("of an interface's METHOD", "7 1 -1 1 1 / X; 183 8; 177", of("25 0", "18 0", "18 4"), of("18 65536", "18 65543"));
        edges("of Cloneable's METHOD", "2 1 -1 1 1 / X; 183 8; 177", of("25 0", "18 0", "18 65536"), of("3", "187 4"));
    }

    /** "an array and another TYPE: Object": what all ways have in common is judged, not what one of them brings. */
    private static void arraysInCommonForInterfaces() {
        String[] arrays = {"18 65536", "18 65543", "18 131070", "18 131072"};
        String[] others = {"18 0", "18 4", "18 7", "18 2", "18 131071"};
        for (String array : arrays) {
            for (String other : others) {
                if (other.equals("18 131071") && !array.equals("18 131070")) {
                    continue;
                }
                for (String use : new String[] {"25 0; 179 5", "25 0; 185 8", "25 0; 180 4; 87", "25 0; 184 10; 88"}) {
                    edge("in a local", both(array + "; 58 0", other + "; 58 0", use),
                        both(array + "; 58 0", array + "; 58 0", use));
                    edge("in a local", both(other + "; 58 0", array + "; 58 0", use),
                        both(array + "; 58 0", "1; 58 0", use));
                }
                edge("on the stack", bothOnStack(array, other, "179 5"), bothOnStack(array, "1", "179 5"));
                edge("on the stack", bothOnStack(other, array, "179 5"), bothOnStack("1", array, "179 5"));
                String loop = "4 0 -1 2 2 / " + array + "; 58 0; 25 0; 179 5; X; 58 0; 3; 153 2; 177";
                edge("only when it is come to again", loop.replace("X", other), loop.replace("X", array));
                edge("only when it is come to again", loop.replace("X", other), loop.replace("X", "1"));
            }
        }
        String late = "4 0 -1 2 2 / 18 65536; 58 0; 25 0; 179 5; 3; 153 10; 3; 153 2; 177; 0; X; 58 0; 167 2";
        edges("by a way that is found late", late, of("18 4", "18 7", "18 0"), of("1", "18 65540", "25 0"));
        due("by a way that is found late", late.replace("X", "18 4"), "0()[0,0] 2()[8,0] 10()[8,0]");
        due("with arguments", "4 0 -1 2 2 65534 / 21 0; 87; 18 65536; 58 1; 25 1; 179 5; 18 4; 58 1; 3; 153 4; 177",
            "0()[1,0] 4()[1,8]");
        String rows = "4 0 -1 2 2 / 18 65536; 58 0; 0; X; 177; 87; 25 0; 179 5; 177; : 2 6 6 -1";
        edges("by a handler", rows, of("18 4; 58 0"), of("18 65540; 58 0", "1; 58 0", "3; 54 1"));
    }

    /** Ways with other CONTEXTS have nothing to do with it. */
    private static void arraysOfOneContext() {
        String calls = "4 0 -1 2 2 / 18 65536; 58 0; 168 8; X; 58 0; 168 8; 177; 0; 58 1; 25 0; 179 5; 169 1";
        for (String second : new String[] {"18 0", "18 4", "1", "18 65536"}) {
            edge("in one CONTEXT it is an array", calls.replace("18 65536; 58 0", "18 4; 58 0").replace("X", "1"),
                calls.replace("X", second));
        }
        String joined = "4 0 -1 2 2 / 3; 153 5; 18 65536; 58 0; 167 7; X; 58 0; 168 9; 177; 58 1; 25 0; 179 5; 169 1";
        edges("in one CONTEXT it is both", joined, of("18 0", "18 4"), of("1", "18 65536"));
    }

    // ---- INSTRUCTIONS

    /** "the stack never has more places than there are": so many are just enough. */
    private static void placesOfTheStack() {
        String[][] needs = {
            {"1", "1; 87"}, {"1", "3; 87"}, {"2", "9; 88"}, {"1", "11; 87"}, {"2", "14; 88"}, {"1", "16 5; 87"},
            {"1", "17 5; 87"}, {"1", "18 4; 87"}, {"1", "18 65530; 87"}, {"2", "20 65535; 88"}, {"2", "20 65531; 88"},
            {"1", "21 0; 87"}, {"2", "22 1; 88"}, {"1", "25 3; 87"}, {"2", "3; 89; 88"}, {"3", "3; 3; 90; 87; 88"},
            {"4", "3; 3; 3; 91; 88; 88"}, {"4", "9; 3; 91; 87; 88; 87"}, {"4", "9; 92; 88; 88"}, {"5", "3; 9; 93; 88; 87; 88"},
            {"6", "9; 9; 94; 88; 88; 88"}, {"2", "3; 3; 95; 88"}, {"2", "3; 133; 88"}, {"2", "3; 135; 88"},
            {"2", "11; 140; 88"}, {"2", "11; 141; 88"}, {"2", "9; 138; 88"}, {"2", "1; 180 6; 88"},
            {"2", "178 6; 88"}, {"1", "178 0; 87"}, {"2", "1; 184 10; 88"}, {"2", "1; 186 10; 88"}, {"1", "187 4; 87"},
            {"1", "3; 188 6; 87"}, {"2", "1; 3; 47; 88"}, {"2", "1; 3; 49; 88"}, {"4", "9; 9; 97; 88"},
            {"3", "9; 3; 121; 88"}, {"4", "9; 9; 148; 87"}, {"2", "1; 1; 185 10; 88"}, {"200", "X"},
        };
        StringBuilder all = new StringBuilder();
        for (int k = 0; k < 200; k++) {
            all.append(k > 0 ? "; 3" : "3");
        }
        for (String[] need : needs) {
            int places = Integer.parseInt(need[0]);
            String code = " 65534 65535 4 / " + need[1].replace("X", all) + "; 177";
            edge("places of the stack", "4 0 -1 4 " + places + code, "4 0 -1 4 " + (places - 1) + code);
            if (places < 200) {
                edge("more places", "4 0 -1 4 200" + code, "4 0 -1 4 0" + code);
            }
        }
        edge("a place for the ADDRESS", "0 0 -1 0 1 / 168 1; 177", "0 0 -1 0 0 / 168 1; 177");
        StringBuilder almost = new StringBuilder("0 0 -1 200 200 / ");
        for (int k = 0; k < 198; k++) {
            almost.append("3; ");
        }
        edges("all places that there can be", almost + "X; 177", of("92", "93", "94", "89; 89", "90; 91", "9"),
            of("3; 92", "92; 89", "3; 93", "3; 94", "92; 3", "3; 9", "92; 9"));
        edge("another place for the ADDRESS", "0 0 -1 0 3 / 9; 168 2; 177", "0 0 -1 0 2 / 9; 168 2; 177");
    }

    /** Each INSTRUCTION asks for all that it takes: what is just enough is kept, one fewer or another one is not. */
    private static void operandsThatAreThere() {
        String[][] asks = {
            {"3; 54 0", "54 0", "11; 54 0"}, {"9; 55 0", "55 0", "3; 3; 55 0"}, {"1; 58 0", "58 0", "3; 58 0"},
            {"1; 3; 46; 87", "3; 46; 87", "1; 1; 46; 87"}, {"1; 3; 50; 87", "3; 50; 87", "18 0; 3; 50; 87"},
            {"1; 3; 3; 79", "3; 3; 79", "1; 3; 9; 79"}, {"1; 3; 9; 80", "3; 9; 80", "1; 3; 3; 80"},
            {"1; 3; 1; 83", "3; 1; 83", "1; 3; 3; 83"}, {"3; 87", "87", "9; 87"}, {"3; 3; 88", "3; 88", "9; 3; 88"},
            {"3; 89; 88", "89; 88", "9; 89; 88; 87"}, {"3; 3; 96; 87", "3; 96; 87", "3; 11; 96; 87"},
            {"9; 9; 97; 88", "9; 97; 88", "9; 3; 97; 88"}, {"3; 116; 87", "116; 87", "11; 116; 87"},
            {"9; 3; 121; 88", "3; 121; 88", "9; 9; 121; 88"}, {"3; 133; 88", "133; 88", "9; 133; 88"},
            {"9; 9; 148; 87", "9; 148; 87", "14; 9; 148; 87"}, {"1; 190; 87", "190; 87", "18 0; 190; 87"},
            {"1; 192 4; 87", "192 4; 87", "3; 192 4; 87"}, {"1; 193 4; 87", "193 4; 87", "187 4; 193 4; 87"},
            {"1; 194", "194", "3; 194"}, {"187 4; 195", "195", "9; 195"}, {"3; 179 0", "179 0", "9; 179 0"},
            {"9; 179 6", "179 6", "14; 179 6"}, {"18 4; 180 0; 87", "180 0; 87", "18 0; 180 0; 87"},
            {"18 5; 3; 181 0", "3; 181 0", "18 0; 3; 181 0"}, {"18 5; 182 6", "182 6", "18 0; 182 6"},
            {"18 4; 1; 182 10; 88", "1; 182 10; 88", "18 4; 3; 182 10; 88"}, {"1; 184 10; 88", "184 10; 88", "3; 184 10; 88"},
            {"3; 188 0; 87", "188 0; 87", "9; 188 0; 88"}, {"3; 189 4; 87", "189 4; 87", "1; 189 4; 87"},
            {"3; 3; 197 131076 2; 87", "3; 197 131076 2; 87", "3; 11; 197 131076 2; 87"},
            {"3; 197 131076 1; 87", "197 131076 1; 87", "1; 197 131076 1; 87"},
        };
        for (String[] ask : asks) {
            edges("what is asked for", "4 0 -1 2 6 / X; 177", of(ask[0]), of(ask[1], ask[2]));
        }
        String[][] returns = {
            {"65534", "3; 172", "172", "1; 172"}, {"65535", "9; 173", "173", "3; 173"}, {"65530", "11; 174", "174", "3; 174"},
            {"65531", "14; 175", "175", "9; 175"}, {"4", "18 5; 176", "176", "18 0; 176"}, {"-1", "177", "3; 172", "1; 176"},
            {"65528", "3; 172", "177", "11; 174"}, {"131070", "18 131070; 176", "18 65536; 176", "18 131071; 176"},
            {"131070", "1; 176", "18 0; 176", "18 196606; 176"}, {"196606", "18 196606; 176", "18 131072; 176", "18 131070; 176"},
            {"65537", "18 65545; 176", "18 65536; 176", "18 1; 176"},
        };
        for (String[] r : returns) {
            edges("what is returned", "4 0 " + r[0] + " 2 6 / X", of(r[1]), of(r[2], r[3]));
        }
        edges("what is thrown", "4 0 -1 2 2 / X; 191", of("1", "18 1", "18 8", "18 9"),
            of("0", "3", "18 0", "18 4", "18 7", "18 2", "18 65537", "187 1"));
    }

    /** "new: another NEW one of that INSTRUCTION on the stack refuses; in locals it can be used no more". */
    private static void newObjects() {
        String twice = "0 0 -1 3 3 / 168 6; 25 1; X; 168 6; 177; 0; 58 0; 187 4; 58 1; 169 0";
        edges("on the stack", twice, of("87", "58 2", "183 1"), of("0", "89"));
        edges("another INSTRUCTION's is on the stack", "0 0 -1 3 3 / 187 4; 187 4; X; 177", of("88", "183 1; 183 1"),
            of("89; 183 1; 89; 183 1; 190", "190"));
        String used = "0 0 -1 3 3 / 168 9; 25 1; 58 2; 168 9; X; 177; 0; 0; 0; 58 0; 187 4; 58 1; 169 0";
        edges("in locals it is used no more", used, of("25 1; 87", "25 1; 183 1"), of("25 2; 87", "25 2; 183 1"));
        due("in each local", "0 0 -1 4 1 / 168 8; 25 1; 58 0; 25 1; 58 3; 168 8; 177; 0; 58 2; 187 4; 58 1; 169 2",
            "0()[0,0,0,0] 1()[0,153,26,0] 6()[0,153,106,0] 8(1)[0,0,0,0|26] 8(6)[153,153,26,153|106]");
        String loop = "0 0 -1 3 3 / 3; 54 0; 1; 58 1; X; 187 4; 58 1; 21 0; 153 4; 177";
        edges("in a loop", loop, of("0", "1; 58 2"), of("25 1; 87"));
        edge("made before it is come to again", "0 0 -1 3 3 / 187 4; 89; 58 1; 183 1; 3; 153 0; 177",
            "0 0 -1 3 3 / 187 4; 89; 58 1; 3; 153 0; 177");
    }

    /** "the receiver is NEW of an INSTRUCTION with just the SHAPE's CLASS". */
    private static void constructorsOfNew() {
        edges("just the SHAPE's CLASS", "4 1 -1 3 3 / 187 5; X; 177", of("183 2", "89; 183 2; 87"),
            of("183 1", "183 3", "183 0", "89; 183 2; 183 2", "3; 183 4"));
        edges("with its arguments", "4 1 -1 3 3 / 187 4; X; 177", of("183 1", "3; 183 4"),
            of("183 4", "11; 183 4", "3; 183 1"));
        edges("is NEW", "4 1 -1 3 3 / X; 183 1; 177", of("187 4", "187 4; 89; 58 1"),
            of("1", "18 4", "25 0", "3", "0", "187 5", "187 0"));
        edges("all places become references", "4 0 -1 3 3 / 187 4; 89; 58 0; X; 25 0; 180 0; 87; 180 0; 87; 177",
            of("89; 183 1", "25 0; 183 1"), of("0", "187 4; 183 1"));
    }

    /** "or THIS, and the SHAPE's CLASS that of the METHOD or its superclass". */
    private static void constructorsOfThis() {
        edges("that of the METHOD or its superclass", "6 2 -1 2 3 / 25 0; X; 177", of("183 3", "183 2"),
            of("183 1", "183 0", "87"));
        edges("that of the METHOD or its superclass", "4 2 -1 2 3 / 25 0; X; 177", of("183 1", "183 0", "3; 183 4"),
            of("183 2", "183 3", "183 4", "11; 183 4"));
        edges("just once", "4 2 -1 2 3 / 25 0; 183 1; X; 177", of("0", "25 0; 87"), of("25 0; 183 1", "25 0; 183 0"));
        edges("all places become references", "4 2 -1 2 3 / 25 0; 58 1; 25 0; X; 25 1; 180 0; 87; 177", of("183 1", "183 0"),
            of("87", "87; 187 4; 183 1"));
        due("all places", "4 2 -1 2 3 / 25 0; 58 1; 25 0; 89; 183 1; 167 6; 167 6", "0()[6,0] 6()[72,72|72]!");
    }

    /** "of another SHAPE: the receiver may stand for the METHOD's CLASS, and the SHAPE's CLASS is that, one above it ..". */
    private static void specialOfOthers() {
        edges("the SHAPE's CLASS", "5 1 -1 1 1 / 25 0; 183 X; 177", of("5", "6", "7", "8", "12"), of("9", "11"));
        edges("the SHAPE's CLASS", "4 1 -1 1 1 / 25 0; 183 X; 177", of("5", "6", "8", "12"), of("7", "9", "11"));
        edges("the SHAPE's CLASS", "0 1 -1 1 1 / 25 0; 183 X; 177", of("5", "8", "12"), of("6", "7", "9", "11"));
        edges("the SHAPE's CLASS", "7 1 -1 1 1 / 25 0; 183 X; 177", of("5", "8", "12"), of("6", "7", "9", "11"));
        edges("the receiver", "5 1 -1 1 1 / X; 183 6; 177", of("25 0", "1", "18 5", "18 6"),
            of("18 4", "18 0", "18 10", "18 7", "18 65541", "187 5", "3", "0"));
        edge("THIS is no receiver", "5 2 -1 1 1 / 25 0; 183 2; 25 0; 183 6; 177", "5 2 -1 1 1 / 25 0; 183 6; 25 0; 183 2; 177");
    }

    /** "182, 184, 185, 186 of a constructor's refuse". */
    private static void constructorsAreSpecial() {
        for (String receiver : new String[] {"187 4", "18 4", "1", "0"}) {
            edges("only by invokespecial", "4 0 -1 1 1 / X; 177", of("187 4; 183 1"),
                of(receiver + "; 182 1", receiver + "; 184 1", receiver + "; 185 1", receiver + "; 186 1"));
        }
        edges("also those of others", "4 0 -1 1 1 / X; 177", of("18 4; 182 6", "184 6", "18 4; 185 6", "186 6", "18 4; 183 6"),
            of("187 4; 182 1"));
        edge("where it is come to", "4 0 -1 1 1 / 177; 182 1; 184 1; 185 1; 186 1", "4 0 -1 1 1 / 167 1; 184 1; 177");
    }

    /** "putfield of THIS: the FIELD's CLASS is the METHOD's". */
    private static void fieldsOfThis() {
        edges("putfield of THIS", "4 2 -1 1 3 / 25 0; X; 25 0; 183 1; 177", of("3; 181 0", "1; 181 1", "9; 181 6"),
            of("3; 181 2", "3; 181 3", "3; 181 4", "180 0; 87", "11; 181 0"));
        edges("putfield of what was made", "4 2 -1 1 3 / 25 0; 183 1; 25 0; X; 177", of("3; 181 0", "3; 181 3", "3; 181 4"),
            of("3; 181 2"));
        edges("putfield of THIS, one below", "5 2 -1 1 3 / 25 0; X; 25 0; 183 2; 177", of("3; 181 2"),
            of("3; 181 0", "3; 181 3"));
        edge("putfield of NEW", "4 0 -1 1 3 / 187 4; 89; 183 1; 3; 181 0; 177", "4 0 -1 1 3 / 187 4; 3; 181 0; 177");
        edge("THIS is no value", "4 2 -1 1 3 / 25 0; 1; 181 1; 1; 191", "4 2 -1 1 3 / 25 0; 25 0; 181 1; 1; 191");
    }

    /** "A constructor's return refuses while its THIS was not made (by all ways; that of CLASS 0 is from the beginning)". */
    private static void returnsOfConstructors() {
        edges("made", "4 2 -1 1 2 / X; 177", of("25 0; 183 1"), of("0", "25 0; 87", "187 4; 183 1", "1; 58 0"));
        edge("of CLASS 0", "0 2 -1 1 2 / 177", "1 2 -1 1 2 / 177");
        edge("of no constructor", "4 1 -1 1 2 / 177", "4 2 -1 1 2 / 177");
        edge("by all ways", "4 2 -1 1 2 / 3; 153 5; 25 0; 183 1; 177; 25 0; 183 1; 177",
            "4 2 -1 1 2 / 3; 153 5; 25 0; 183 1; 177; 0; 177");
        edge("by all ways to one return", "4 2 -1 1 2 / 3; 153 5; 25 0; 183 1; 167 7; 25 0; 183 0; 177",
            "4 2 -1 1 2 / 3; 153 4; 25 0; 183 1; 177");
        edge("thrown, or for ever", "4 2 -1 1 2 / 167 0", "4 2 -1 1 2 / 3; 153 0; 177");
        edge("in a subroutine", "4 2 -1 2 2 / 168 2; 177; 58 1; 25 0; 183 1; 169 1", "4 2 -1 2 2 / 168 2; 177; 58 1; 169 1");
    }

    /** "0 is what int is jumped by: 153 to 158; 165, 166, 198, 199 any reference (THIS and NEW, too)". */
    private static void jumpsOnReferences() {
        for (int op = 153; op <= 158; op++) {
            edges("int alone", "4 2 -1 1 2 / X; " + op + " 2; 1; 191", of("3"),
                of("1", "25 0", "187 4", "18 4", "11", "9", "0"));
        }
        for (int op = 159; op <= 164; op++) {
            edges("two ints", "4 2 -1 1 3 / X; " + op + " 3; 1; 191", of("3; 3"), of("1; 3", "3; 1", "0; 3", "9; 0", "11; 3"));
        }
        for (int op = 165; op <= 166; op++) {
            edges("two references", "4 2 -1 1 3 / X; " + op + " 3; 1; 191",
                of("1; 1", "25 0; 25 0", "187 4; 187 4", "18 4; 18 65536"),
                of("1; 3", "3; 1", "0; 1", "9; 0", "11; 1"));
        }
        for (int op = 198; op <= 199; op++) {
            edges("one reference", "4 2 -1 1 2 / X; " + op + " 2; 1; 191", of("1", "25 0", "187 4", "18 4", "18 65536"),
                of("3", "11", "9", "0"));
        }
    }

    // ---- handlers, the end, and room

    /** "the stack being its CLASS (any: Throwable), which must be Throwable or below it, with a place at least". */
    private static void handlersOfThrowables() {
        edges("Throwable or below it", "4 0 -1 1 1 / 0; 177; 191; : 0 1 2 X", of("-1", "1", "8", "9"),
            of("0", "2", "3", "4", "5", "7", "10"));
        edge("where it is come to", "4 0 -1 1 1 / 177; 0; 177; : 1 2 2 0", "4 0 -1 1 1 / 0; 177; 177; : 1 2 2 0");
        edge("with a place", "4 0 -1 1 1 / 177; 177; : 0 1 1 -1", "4 0 -1 1 0 / 177; 177; : 0 1 1 -1");
        edge("with a place, where it is come to", "4 0 -1 1 0 / 177; 177; : 1 2 1 -1", "4 0 -1 1 0 / 0; 177; : 1 2 1 -1");
        due("any", "4 0 -1 1 1 / 0; 177; 191; : 0 1 2 -1", "0()[0] 2()[0|24]");
        due("one below", "4 0 -1 1 1 / 0; 177; 191; : 0 1 2 9", "0()[0] 2()[0|152]");
        due("two of them", "4 0 -1 1 1 / 0; 177; 191; : 0 1 2 9; : 0 1 2 8", "0()[0] 2()[0|136]");
        edge("one is over the other", "4 0 8 1 1 / 0; 1; 176; 176; : 0 1 3 9; : 0 1 3 8",
            "4 0 9 1 1 / 0; 1; 176; 176; : 0 1 3 9; : 0 1 3 8");
    }

    /** "With what is there ahead of each INSTRUCTION (locals)": from with, up to without. */
    private static void handlersSeeWhatIsAhead() {
        String method = "4 0 -1 1 2 / 3; 54 0; 0; 11; 56 0; 177; 21 0; 88; 177; : X 6 -1";
        edges("ahead of each", method, of("2 3", "2 4", "2 5", "3 5", "4 5"),
            of("0 1", "1 2", "1 3", "0 6", "2 6", "5 6", "4 6"));
        due("of the INSTRUCTION that stores", "4 0 -1 1 2 / 3; 54 0; 177; 87; 177; : 1 2 3 -1", "0()[0] 3()[0|24]");
        due("of the one behind it", "4 0 -1 1 2 / 3; 54 0; 177; 87; 177; : 2 3 3 -1", "0()[0] 3()[1|24]");
        due("of one that is come to from outside of the ROW",
            "4 0 -1 1 2 / 3; 153 6; 3; 54 0; 0; 0; 177; 87; 177; : 5 7 7 -1", "0()[0] 6()[0] 7()[0|24]");
        due("of one that is come to from outside of the ROW",
            "4 0 -1 1 2 65534 / 3; 153 6; 11; 56 0; 0; 0; 177; 87; 177; : 5 7 7 -1", "0()[1] 6()[0] 7()[0|24]");
        due("of the last one", "4 0 -1 1 2 / 3; 54 0; 167 4; 191; 177; : 4 5 3 -1", "0()[0] 3()[1|24] 4()[1]");
    }

    /** "a constructor's THIS stays what it is". */
    private static void handlersOfConstructors() {
        String method = "4 2 -1 1 2 / 0; 25 0; 183 1; 177; X; : 0 3 4 -1";
        edges("not made yet", method, of("191", "87; 25 0; 183 1; 177"), of("177", "87; 25 0; 180 0; 177"));
        String behind = "4 2 -1 1 2 / 0; 25 0; 183 1; 177; X; : 3 4 4 -1";
        edges("made", behind, of("191", "177", "87; 25 0; 180 0; 177"), of("87; 25 0; 183 1; 177"));
        String over = "4 2 -1 1 2 / 0; 25 0; 183 1; 177; X; : 0 4 4 -1";
        edges("both", over, of("191", "1; 191"), of("177", "87; 25 0; 183 1; 177", "87; 25 0; 180 0; 177"));
        due("THIS", method.replace("X", "191"), "0()[6] 4()[6|24]");
        due("THIS that was made", behind.replace("X", "191"), "0()[6] 4()[72|24]!");
        due("both", over.replace("X", "191"), "0()[6] 4()[0|24]");
    }

    /** "To go beyond the last INSTRUCTION refuses". */
    private static void beyondTheLastOne() {
        edges("the last one", "0 0 -1 1 1 / 3; 167 2; X", of("170 > 0", "167 2", "177", "87; 177"),
            of("87", "0", "153 0", "87; 168 2", "54 0"));
        edges("the last one", "0 0 -1 1 1 / 1; X", of("191", "177", "198 0; 177"), of("87", "58 0", "198 0", "199 0", "190"));
        edge("the last one is ret", "0 0 -1 1 1 / 168 2; 177; 58 0; 169 0", "0 0 -1 1 1 / 168 2; 177; 58 0; 0");
        edge("none comes to it", "0 0 -1 1 1 / 177; 0", "0 0 -1 1 1 / 167 1; 0");
        edge("alone", "0 0 -1 0 0 / 177", "0 0 -1 0 0 / 0");
    }

    private static String gotos(int targets, int locals, int stack) {
        StringBuilder text = new StringBuilder("0 0 -1 " + locals + " " + stack + " / ");
        for (int k = 1; k < targets; k++) {
            text.append("167 ").append(k).append("; ");
        }
        return text + "177";
    }

    /** One TARGET for the beginning, one behind each call, and one with each CONTEXT. */
    private static String callsOfOne(int calls, int locals, int stack) {
        StringBuilder text = new StringBuilder("0 0 -1 " + locals + " " + stack + " / ");
        for (int k = 0; k < calls; k++) {
            text.append("168 ").append(calls + 1).append("; ");
        }
        return text + "177; 58 0; 169 0";
    }

    /** "More than 20000 WORDS refuse: TARGETS with CONTEXTS that are come to, times locals and stack and 1". */
    private static void words() {
        edge("20000, and one TARGET more", gotos(100, 199, 0), gotos(101, 199, 0));
        edge("20000, and one local more", gotos(100, 99, 100), gotos(100, 100, 100));
        edge("20000, and one place of the stack more", gotos(100, 99, 100), gotos(100, 99, 101));
        edge("50 times 400", gotos(50, 200, 199), gotos(50, 200, 200));
        edge("177 times 112, and 20001", gotos(177, 111, 0), gotos(177, 112, 0));
        edge("59 times 338, and 20001", gotos(59, 200, 137), gotos(59, 200, 138));
        edge("TARGETS that are not come to", gotos(50, 200, 199) + "; 167 50; 168 51; 0", gotos(51, 200, 199));
        StringBuilder twoWays = new StringBuilder("0 0 -1 200 199 / 3; 153 2; ");
        for (int k = 3; k <= 50; k++) {
            twoWays.append("167 ").append(k).append("; ");
        }
        edge("a TARGET by two ways is one", twoWays + "177", twoWays + "167 51; 177");
        edge("CONTEXTS, 125 times 160", callsOfOne(62, 100, 59), callsOfOne(62, 100, 60));
        edge("CONTEXTS, 125 times 160", callsOfOne(62, 100, 59), callsOfOne(63, 100, 59));
    }
}
