/** Promise 11: 20000 WORDS, and METHODS that are as large as calls allow. */
public final class LimitsTest {
    public static void main(String[] args) {
        words();
        wordsOfContexts();
        doubling();
        manyPlaces();
        manyRows();
        longChains();
        farTargets();
        Check.end("LimitsTest");
    }

    /** So many TARGETS: each goto goes to the next one. */
    private static int targets(int targets, int locals, int stack) {
        FlowJudge j = new FlowJudge();
        j.method(0, 0, -1, locals, stack);
        for (int k = 1; k < targets; k++) {
            j.put(167, k, 0);
        }
        j.put(177, 0, 0);
        return j.judge();
    }

    private static void words() {
        Check.same("100 times 200", targets(100, 100, 99), 100);
        Check.same("100 times 200", targets(100, 199, 0), 100);
        Check.same("100 times 200", targets(100, 0, 199), 100);
        Check.same("101 times 200", targets(101, 100, 99), -1);
        Check.same("100 times 201", targets(100, 100, 100), -1);
        Check.same("50 times 400", targets(50, 200, 199), 50);
        Check.same("49 times 401", targets(49, 200, 200), 49);
        Check.same("50 times 401", targets(50, 200, 200), -1);
        Check.same("500 times 40", targets(500, 20, 19), 500);
        Check.same("500 times 41", targets(500, 20, 20), -1);
        Check.same("500 times 1", targets(500, 0, 0), 500);
        Check.same("177 times 113 is one too many", targets(177, 100, 12), -1);
        FlowJudge j = new FlowJudge();
        j.method(0, 0, -1, 200, 199);
        for (int k = 0; k < 49; k++) {
            j.put(167, k + 1, 0);
        }
        j.put(177, 0, 0);
        j.put(167, 51, 0);
        j.put(177, 0, 0);
        Check.same("TARGETS that are not come to are not counted", j.judge(), 50);
    }

    /** n times a subroutine of one TARGET: n for the calls, n and 1 for what is behind them. */
    private static void wordsOfContexts() {
        for (int size : new int[] {98, 99, 100}) {
            FlowJudge j = new FlowJudge();
            j.method(0, 0, -1, size, 100);
            for (int k = 0; k < 50; k++) {
                j.put(168, 51, 0);
            }
            Check.put(j, "177; 58 0; 169 0");
            int targets = 101;
            Check.same("CONTEXTS are counted", j.judge(), targets * (size + 101) > 20000 ? -1 : targets);
        }
        FlowJudge j = new FlowJudge();
        j.method(0, 0, -1, 97, 100);
        for (int k = 0; k < 50; k++) {
            j.put(168, 51, 0);
        }
        Check.put(j, "177; 58 0; 169 0");
        Check.same("101 times 198 WORDS", j.judge(), 101);
    }

    /** Subroutine k calls subroutine k + 1 twice, so that CONTEXTS double from each to the next one. */
    private static String doublingOf(int levels) {
        StringBuilder text = new StringBuilder("168 2; 177; ");
        for (int k = 0; k < levels; k++) {
            int next = 6 + 4 * k;
            text.append("58 ").append(k).append("; 168 ").append(next).append("; 168 ").append(next);
            text.append("; 169 ").append(k).append("; ");
        }
        return text.append("58 ").append(levels).append("; 169 ").append(levels).toString();
    }

    private static void doubling() {
        for (int levels = 1; levels <= 10; levels++) {
            int count = 2 + 3 * ((1 << levels) - 1) + (1 << levels);
            int due = count * (levels + 3) > 20000 ? -1 : count;
            FlowJudge j = new FlowJudge();
            j.method(0, 0, -1, levels + 1, 1);
            Check.put(j, doublingOf(levels));
            Check.same(levels + " levels", j.judge(), due);
            NaiveJudge naive = new NaiveJudge();
            naive.method(0, 0, -1, levels + 1, 1);
            Check.put(naive, doublingOf(levels));
            Check.same(levels + " levels", naive.judge(), due);
            Check.same(levels + " levels: digest", j.digest(), naive.digest());
        }
        FlowJudge j = new FlowJudge();
        j.method(0, 0, -1, 16, 1);
        Check.put(j, doublingOf(15));
        Check.same("far more than 20000 WORDS", j.judge(), -1);
    }

    private static void manyPlaces() {
        FlowJudge j = new FlowJudge();
        j.method(0, 0, -1, 200, 200);
        for (int k = 0; k < 200; k++) {
            j.put(3, 0, 0);
        }
        j.put(167, 201, 0);
        j.put(54, 199, 0);
        j.put(3, 0, 0);
        j.put(177, 0, 0);
        Check.same("200 places", j.judge(), 2);
        Check.same("the last place", j.told(1, 399), 1);
        Check.same("no place behind it", j.told(1, 400), -1);
        Check.same("height", j.frame(1, 2), 200);
        j.method(0, 0, -1, 200, 200);
        for (int k = 0; k < 201; k++) {
            j.put(3, 0, 0);
        }
        j.put(177, 0, 0);
        Check.same("201 places", j.judge(), -1);
    }

    private static void manyRows() {
        FlowJudge j = new FlowJudge();
        j.method(0, 0, -1, 60, 2);
        for (int k = 0; k < 50; k++) {
            j.put(3, 0, 0);
            j.put(54, k, 0);
        }
        j.put(177, 0, 0);
        for (int k = 0; k < 50; k++) {
            j.put(87, 0, 0);
            j.put(177, 0, 0);
            j.row(2 * k + 2, 101, 101 + 2 * k, -1);
        }
        Check.same("50 handlers", j.judge(), 51);
        for (int k = 0; k < 50; k++) {
            Check.same("what is there for " + k, j.told(k + 1, k), 1);
            Check.same("what is not there for " + k, j.told(k + 1, k + 1), 0);
            Check.same("what is thrown", j.told(k + 1, 60), 24);
        }
    }

    /** TARGETS that are 256 INSTRUCTIONS and more from one another, come to again and again. */
    private static void farTargets() {
        FlowJudge j = new FlowJudge();
        j.method(0, 0, -1, 1, 1);
        j.argument(65534);
        Check.put(j, "167 257; 11; 56 0; 3; 153 257; 177");
        for (int k = 6; k < 257; k++) {
            j.put(0, 0, 0);
        }
        Check.put(j, "3; 153 1; 177");
        Check.same("two far TARGETS", Check.frames(j, j.judge(), 1), "0()[1] 1()[0] 257()[0]");
    }

    /** What goes round changes one local a round. */
    private static void longChains() {
        FlowJudge j = new FlowJudge();
        StringBuilder text = new StringBuilder();
        for (int k = 0; k < 60; k++) {
            text.append("3; 54 ").append(k).append("; ");
        }
        int loop = 120;
        for (int k = 0; k < 59; k++) {
            text.append("0; ");
        }
        j.method(0, 0, -1, 60, 2);
        Check.put(j, text.toString());
        Check.put(j, "11; 56 59; 3; 153 " + loop + "; 177");
        Check.same("one round", j.judge(), 2);
        Check.same("changed", j.told(1, 59), 0);
        Check.same("not changed", j.told(1, 58), 1);
        FlowJudge chain = new FlowJudge();
        for (int c = 4; c < 130; c++) {
            chain.add(c == 4 ? 0 : c - 1, false);
        }
        chain.method(0, 0, -1, 2, 2);
        Check.put(chain, "18 129; 58 0; 0");
        for (int c = 128; c > 20; c--) {
            Check.put(chain, "18 " + c + "; 58 0");
        }
        Check.put(chain, "3; 153 2; 177");
        Check.same("a chain of CLASSES", chain.judge(), 2);
        Check.same("what all have", chain.told(1, 0), Check.place(21));
    }
}
