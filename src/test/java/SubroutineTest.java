/** Promise 11 and 13: jsr, ret and CONTEXTS. */
public final class SubroutineTest {
    public static void main(String[] args) {
        calls();
        nested();
        returnsFar();
        addresses();
        movedAddresses();
        refusedCalls();
        depth();
        handlers();
        merges();
        order();
        again();
        another();
        Check.end("SubroutineTest");
    }

    private static void due(String text, int locals, int stack, String frames) {
        Check.same(text, Check.judged(new FlowJudge(), locals, stack, text), frames);
    }

    private static void refused(String text, int locals, int stack) {
        due(text, locals, stack, "refused");
    }

    private static void calls() {
        due("168 2; 177; 58 0; 169 0", 1, 1, "0()[0] 1()[26] 2(1)[0|26]");
        due("168 3; 168 3; 177; 58 0; 169 0", 1, 1, "0()[0] 1()[26] 2()[42] 3(1)[0|26] 3(2)[26|42]");
        // Each CONTEXT has its own locals: int stays int by one call, though float is there by the other one.
        due("3; 54 1; 168 8; 132 1 1; 11; 56 1; 168 8; 177; 58 0; 169 0", 2, 1,
            "0()[0,0] 3()[58,1] 7()[122,2] 8(3)[0,1|58] 8(7)[58,2|122]");
        // It need not return.
        due("168 1; 177", 0, 1, "0()[] 1(1)[|26]");
        due("168 2; 177; 177", 0, 1, "0()[] 2(1)[|26]");
        // What the stack has below the ADDRESS comes back.
        due("3; 11; 168 5; 88; 177; 58 0; 169 0", 1, 3, "0()[0] 3()[58|1,2] 5(3)[0|1,2,58]");
        due("168 3; 87; 177; 58 0; 3; 169 0", 1, 1, "0()[0] 1()[26|1] 3(1)[0|26]");
    }

    private static void nested() {
        due("168 2; 177; 58 0; 168 5; 169 0; 58 1; 169 1", 2, 1,
            "0()[0,0] 1()[26,74] 2(1)[0,0|26] 4(1)[26,74] 5(1,4)[26,0|74]");
        due("168 3; 168 7; 177; 58 0; 168 7; 169 0; 0; 58 1; 169 1", 2, 1,
            "0()[0,0] 1()[26,90] 2()[26,42] 3(1)[0,0|26] 5(1)[26,90] 7(1,5)[26,0|90] 7(2)[26,90|42]");
    }

    /** ret of an outer ADDRESS goes back over all that were called later. */
    private static void returnsFar() {
        due("168 2; 177; 58 0; 168 5; 177; 87; 169 0", 1, 1, "0()[0] 1()[26] 2(1)[0|26] 5(1,4)[26|74]");
        due("168 2; 177; 58 0; 168 5; 0; 58 1; 168 8; 0; 87; 169 1", 2, 1, "refused");
        due("168 2; 177; 58 0; 168 5; 169 0; 58 1; 168 8; 0; 87; 169 1", 2, 1,
            "0()[0,0] 1()[26,74] 2(1)[0,0|26] 4(1)[26,74] 5(1,4)[26,0|74] 8(1,4,7)[26,74|122]");
    }

    private static void addresses() {
        // An ADDRESS that was returned by is told still, and is of no use.
        refused("168 2; 169 0; 58 0; 169 0", 1, 1);
        refused("169 0", 1, 1);
        refused("3; 54 0; 169 0", 1, 1);
        refused("1; 58 0; 169 0", 1, 1);
        refused("168 2; 177; 58 0; 25 0; 177", 1, 1);
        refused("168 2; 177; 58 0; 21 0; 177", 1, 1);
        refused("168 2; 177; 54 0; 169 0", 1, 1);
        refused("168 2; 177; 191", 1, 1);
        refused("168 2; 177; 198 1; 177", 1, 1);
        refused("168 2; 177; 192 0; 177", 1, 1);
        refused("168 2; 177; 193 0; 177", 1, 1);
        refused("168 2; 177; 194; 177", 1, 1);
        refused("168 2; 177; 190; 177", 1, 1);
        refused("168 2; 177; 89; 165 1; 177", 1, 2);
        refused("168 2; 177; 153 1; 177", 1, 1);
        // The ADDRESS of a call that was returned from is in no CONTEXT, though it is in a local.
        refused("168 3; 168 6; 177; 58 0; 169 0; 0; 58 1; 169 0", 2, 1);
        due("168 3; 168 6; 177; 58 0; 169 0; 0; 58 1; 169 1", 2, 1,
            "0()[0,0] 1()[26,0] 2()[26,42] 3(1)[0,0|26] 6(2)[26,0|42]");
    }

    private static void movedAddresses() {
        due("168 2; 177; 89; 58 0; 58 1; 169 0", 2, 2, "0()[0,0] 1()[26,26] 2(1)[0,0|26]");
        due("168 2; 177; 3; 95; 58 0; 54 1; 169 0", 2, 2, "0()[0,0] 1()[26,1] 2(1)[0,0|26]");
        due("168 2; 177; 3; 90; 88; 58 0; 169 0", 2, 3, "refused");
        due("168 2; 177; 3; 95; 90; 88; 58 0; 169 0", 2, 3, "0()[0,0] 1()[26,0] 2(1)[0,0|26]");
        due("168 2; 177; 3; 92; 88; 87; 58 0; 169 0", 2, 4, "0()[0,0] 1()[26,0] 2(1)[0,0|26]");
        due("168 2; 177; 3; 3; 91; 94; 87; 88; 88; 87; 177", 2, 8, "0()[0,0] 2(1)[0,0|26]");
        due("168 2; 177; 87; 177", 2, 1, "0()[0,0] 2(1)[0,0|26]");
    }

    private static void refusedCalls() {
        refused("168 0", 0, 1);
        refused("167 2; 177; 168 1", 0, 1);
        due("177; 168 0", 0, 1, "0()[]");
        refused("168 0; 177", 0, 9);
        refused("168 1; 168 1; 177", 0, 9);
        refused("168 2; 177; 58 0; 168 2; 177", 1, 9);
        refused("168 1; 177", 0, 0);
        refused("3; 168 2; 177", 0, 1);
        due("3; 168 2; 177", 0, 2, "0()[] 2(2)[|1,42]");
    }

    /** Each jsr goes to the next one, and none is returned from. */
    private static int deep(int calls) {
        FlowJudge j = new FlowJudge();
        j.method(0, 0, -1, 0, 30);
        for (int k = 0; k < calls; k++) {
            j.put(168, k + 1, 0);
        }
        j.put(177, 0, 0);
        int count = j.judge();
        for (int n = 0; n < count; n++) {
            Check.same("FRAME " + n, j.frame(n, 0), n);
            Check.same("ADDRESSES of " + n, j.frame(n, 1), n);
            for (int k = 0; k < n; k++) {
                Check.same("ADDRESS of " + n, j.context(n, k), k + 1);
                Check.same("place of " + n, j.told(n, k), 16 * (k + 1) + 10);
            }
            Check.same("no ADDRESS more", j.context(n, n), -1);
        }
        return count;
    }

    private static void depth() {
        Check.same("2 deep", deep(2), 3);
        Check.same("16 deep", deep(16), 17);
        Check.same("17 deep", deep(17), -1);
        // Calls that were returned from are not counted.
        StringBuilder text = new StringBuilder();
        for (int k = 0; k < 40; k++) {
            text.append("168 41; ");
        }
        String answer = Check.judged(new FlowJudge(), 1, 1, text + "177; 58 0; 169 0");
        Check.same("40 calls, one after another", answer.split(" ").length, 81);
    }

    private static void handlers() {
        due("168 2; 177; 58 0; 0; 169 0; 87; 169 0; : 3 4 5 -1", 1, 1, "0()[0] 1()[26] 2(1)[0|26] 5(1)[26|24]");
        due("168 2; 177; 58 0; 169 0; 87; 177; : 0 1 4 -1", 1, 1, "0()[0] 1()[26] 2(1)[0|26] 4()[0|24]");
        due("168 3; 168 3; 177; 58 0; 169 0; 87; 177; : 4 5 5 -1", 1, 1,
            "0()[0] 1()[26] 2()[42] 3(1)[0|26] 3(2)[26|42] 5(1)[26|24] 5(2)[42|24]");
    }

    private static void merges() {
        due("3; 153 3; 168 5; 177; 0; 58 0; 169 0", 1, 1, "0()[0] 3()[0] 5(3)[0|58]");
        due("168 2; 177; 58 0; 3; 153 3; 169 0", 1, 1, "0()[0] 1()[26] 2(1)[0|26] 3(1)[26]");
        refused("168 2; 177; 3; 153 6; 87; 1; 58 0; 177", 1, 2);
        due("168 2; 177; 58 0; 3; 153 7; 1; 58 0; 177", 1, 1, "0()[0] 2(1)[0|26] 7(1)[0]");
        refused("168 2; 177; 58 0; 3; 153 7; 1; 58 0; 169 0", 1, 1);
        // Two ADDRESSES, both of the CONTEXT, can be used no more in a local where they meet.
        String both = "168 2; 177; 89; 58 0; 58 1; 168 7; 177; 3; 153 11; 89; 58 1; 87; ";
        due(both + "177", 2, 2, "0()[0,0] 2(1)[0,0|26] 7(1,6)[26,26|106] 11(1,6)[26,0|106]");
        due(both + "169 0", 2, 2, "0()[0,0] 1()[26,0] 2(1)[0,0|26] 7(1,6)[26,26|106] 11(1,6)[26,0|106]");
        refused(both + "169 1", 2, 2);
    }

    /** What is called again, since there is less in common now, has the CONTEXT that it had. */
    private static void again() {
        due("3; 54 0; 168 6; 11; 56 0; 167 2; 58 1; 169 1", 2, 1, "0()[0,0] 2()[0,0] 3()[0,58] 6(3)[0,0|58]");
        due("3; 54 0; 168 9; 168 9; 11; 56 0; 167 2; 0; 0; 58 1; 169 1", 2, 1,
            "0()[0,0] 2()[0,0] 3()[0,58] 4()[0,74] 9(3)[0,0|58] 9(4)[0,58|74]");
        due("3; 54 0; 168 9; 168 9; 168 9; 11; 56 0; 167 2; 0; 58 1; 168 12; 169 1; 58 2; 169 2", 3, 1,
            "0()[0,0,0] 2()[0,0,0] 3()[0,58,186] 4()[0,74,186] 5()[0,90,186] 9(3)[0,0,0|58] 9(4)[0,58,186|74] "
                + "9(5)[0,74,186|90] 11(3)[0,58,186] 11(4)[0,74,186] 11(5)[0,90,186] "
                + "12(3,11)[0,58,0|186] 12(4,11)[0,74,186|186] 12(5,11)[0,90,186|186]");
    }

    /** CONTEXTS of one judge have nothing to do with those of the one before it. */
    private static void another() {
        FlowJudge j = new FlowJudge();
        String two = "0()[] 1(1)[|26] 2(1,2)[|26,42]";
        Check.same("two", Check.judged(j, 0, 4, "168 1; 168 2; 177"), two);
        Check.same("three", Check.judged(j, 0, 4, "168 1; 168 2; 168 3; 177"), two + " 3(1,2,3)[|26,42,58]");
        Check.same("two again", Check.judged(j, 0, 4, "168 1; 168 2; 177"), two);
        Check.same("others", Check.judged(j, 0, 4, "168 2; 177; 168 5; 177; 0; 168 1; 177"),
            "0()[] 1(1,3,6)[|26,58,106] 2(1)[|26] 5(1,3)[|26,58]");
        Check.same("refused", Check.judged(j, 0, 4, "168 1; 168 2; 168 3; 168 4; 168 5; 177"), "refused");
        Check.same("two after that", Check.judged(j, 0, 4, "168 1; 168 2; 177"), two);
    }

    /** The lesser ADDRESS at the first difference first, what ends there first. */
    private static void order() {
        due("168 2; 177; 3; 153 5; 168 5; 177", 0, 3, "0()[] 2(1)[|26] 5(1)[|26] 5(1,5)[|26,90]");
        due("3; 153 4; 168 6; 177; 168 6; 177; 87; 177", 0, 2, "0()[] 4()[] 6(3)[|58] 6(5)[|90]");
        due("167 4; 168 6; 177; 177; 3; 153 1; 168 9; 177; 177; 177", 0, 3,
            "0()[] 1()[] 4()[] 6()[] 6(2)[|42] 9(2,7)[|42,122] 9(7)[|122]");
        // What is come to last has the lesser ADDRESS.
        due("167 3; 168 7; 177; 3; 153 1; 168 7; 177; 168 9; 177; 177", 0, 2,
            "0()[] 1()[] 3()[] 7(2)[|42] 7(6)[|106] 9(2,8)[|42,138] 9(6,8)[|106,138]");
    }
}
