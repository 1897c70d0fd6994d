/** Promises 11 to 15: what judge, frame, context, told and digest answer. */
public final class ToldTest {
    public static void main(String[] args) {
        judge();
        frame();
        context();
        told();
        kinds();
        digest();
        stays();
        another();
        Check.end("ToldTest");
    }

    private static FlowJudge example() {
        FlowJudge j = new FlowJudge();
        j.method(0, 0, -1, 2, 3);
        Check.put(j, "9; 55 0; 168 5; 87; 177; 58 1; 1; 169 1");
        return j;
    }

    private static void judge() {
        FlowJudge j = example();
        Check.same("judge", j.judge(), 3);
        Check.same("judge again", j.judge(), 3);
        j.put(0, 0, 0);
        Check.same("judge with more that is not come to", j.judge(), 3);
        j.put(167, 9999, 0);
        Check.same("judge refuses", j.judge(), -1);
        Check.same("judge refuses again", j.judge(), -1);
    }

    private static void frame() {
        FlowJudge j = example();
        Check.same("none before judge", j.frame(0, 0), -1);
        j.judge();
        int[][] due = {{0, 0, 0, 0}, {3, 0, 1, 0}, {5, 1, 1, 0}};
        for (int n = 0; n < 3; n++) {
            for (int what = 0; what < 4; what++) {
                Check.same("frame(" + n + ", " + what + ")", j.frame(n, what), due[n][what]);
            }
        }
        for (int what = 0; what < 4; what++) {
            Check.same("FRAME 3", j.frame(3, what), -1);
            Check.same("FRAME -1", j.frame(-1, what), -1);
            Check.same("FRAME MAX", j.frame(Integer.MAX_VALUE, what), -1);
            Check.same("FRAME MIN", j.frame(Integer.MIN_VALUE, what), -1);
        }
        for (int what : new int[] {-1, 4, Integer.MIN_VALUE, Integer.MAX_VALUE}) {
            Check.badArgument("what " + what, () -> j.frame(0, what));
            Check.badArgument("what " + what + " of none", () -> j.frame(9, what));
        }
        FlowJudge c = new FlowJudge();
        c.add(0, false);
        c.shape(0, -1, true);
        c.method(4, 2, -1, 1, 1);
        Check.put(c, "25 0; 183 0; 167 3; 177");
        Check.same("a constructor's", c.judge(), 2);
        Check.same("not made yet", c.frame(0, 3), 0);
        Check.same("made", c.frame(1, 3), 1);
    }

    private static void context() {
        FlowJudge j = example();
        Check.same("none before judge", j.context(0, 0), -1);
        j.judge();
        Check.same("of no CONTEXT", j.context(0, 0), -1);
        Check.same("the first", j.context(2, 0), 3);
        Check.same("no second", j.context(2, 1), -1);
        Check.same("none below", j.context(2, -1), -1);
        Check.same("MAX", j.context(2, Integer.MAX_VALUE), -1);
        Check.same("MIN", j.context(2, Integer.MIN_VALUE), -1);
        Check.same("no FRAME 3", j.context(3, 0), -1);
        Check.same("no FRAME -1", j.context(-1, 0), -1);
        Check.same("no FRAME MAX", j.context(Integer.MAX_VALUE, 0), -1);
    }

    private static void told() {
        FlowJudge j = example();
        Check.same("none before judge", j.told(0, 0), -1);
        j.judge();
        int[][] due = {{0, 0}, {0, 58, 5}, {3, 7, 58}};
        for (int n = 0; n < 3; n++) {
            for (int i = 0; i < 4; i++) {
                Check.same("told(" + n + ", " + i + ")", j.told(n, i), i < due[n].length ? due[n][i] : -1);
            }
            Check.same("none below", j.told(n, -1), -1);
            Check.same("MIN", j.told(n, Integer.MIN_VALUE), -1);
            Check.same("MAX", j.told(n, Integer.MAX_VALUE), -1);
        }
        Check.same("no FRAME 3", j.told(3, 0), -1);
        Check.same("no FRAME -1", j.told(-1, 0), -1);
        Check.same("no FRAME MAX", j.told(Integer.MAX_VALUE, 0), -1);
    }

    private static void kinds() {
        FlowJudge j = new FlowJudge();
        int a = j.add(0, false);
        j.method(a, 2, -1, 10, 5);
        j.argument(65528);
        j.argument(65530);
        j.argument(65535);
        j.argument(65531);
        j.argument(255 * 65536 + 65535);
        Check.put(j, "1; 187 4; 168 3; 1; 191");
        Check.same("all kinds", Check.frames(j, j.judge(), 10),
            "0()[6,1,2,3,7,4,7," + Check.place(255 * 65536 + 65535) + ",0,0] 3(3)[6,1,2,3,7,4,7,"
                + Check.place(255 * 65536 + 65535) + ",0,0|5,25,58]");
    }

    private static void digest() {
        FlowJudge j = example();
        Check.same("none", j.digest(), 7);
        j.judge();
        long h = 7;
        int[] all = {0, 0, 0, 0, 0, 0, 3, 0, 1, 0, 0, 58, 5, 5, 1, 1, 0, 3, 7, 58};
        for (int v : all) {
            h = 31 * h + v;
        }
        Check.same("all FRAMES", j.digest(), h);
        j.method(0, 0, -1, 0, 0);
        j.judge();
        Check.same("refused", j.digest(), 7);
        FlowJudge c = new FlowJudge();
        c.method(0, 2, -1, 1, 0);
        c.put(177, 0, 0);
        c.judge();
        Check.same("made is in it", c.digest(), ((((7L * 31) * 31) * 31) * 31 + 1) * 31 + 8);
    }

    /** FRAMES are those of the latest judge, whatever is told after it. */
    private static void stays() {
        FlowJudge j = example();
        j.judge();
        long h = j.digest();
        j.put(177, 0, 0);
        j.row(0, 1, 8, -1);
        Check.same("after put and row", j.digest(), h);
        j.method(1, 1, 0, 200, 200);
        j.argument(65535);
        Check.put(j, "167 0");
        Check.same("after method", j.digest(), h);
        Check.same("after method", Check.frames(j, 3, 2), "0()[0,0] 3()[0,58|5] 5(3)[3,7|58]");
        Check.same("no place more", j.told(0, 2), -1);
        Check.badArgument("wrong calls", () -> j.method(0, 0, -1, 201, 0));
        Check.badArgument("wrong calls", () -> j.put(19, 0, 0));
        Check.badArgument("wrong calls", () -> j.frame(0, 4));
        Check.same("after wrong calls", j.digest(), h);
        Check.same("told does not judge", j.judge(), 1);
        Check.same("the next judge's", j.told(0, 0), 24);
    }

    /** A judge has nothing left of the one before it. */
    private static void another() {
        FlowJudge j = new FlowJudge();
        j.method(0, 2, -1, 1, 3);
        Check.put(j, "168 1; 168 2; 177");
        Check.same("made", Check.frames(j, j.judge(), 1), "0()[8]! 1(1)[8|26]! 2(1,2)[8|26,42]!");
        Check.same("a smaller one", Check.judged(j, 1, 1, "177"), "0()[0]");
        for (int n = 1; n < 4; n++) {
            for (int what = 0; what < 4; what++) {
                Check.same("no FRAME " + n, j.frame(n, what), -1);
                Check.same("no CONTEXT of " + n, j.context(n, what), -1);
                Check.same("no place of " + n, j.told(n, what), -1);
            }
        }
        Check.same("no CONTEXT of 0", j.context(0, 0), -1);
        Check.same("refused on the way", Check.judged(j, 1, 1, "3; 153 4; 168 3; 0; 0"), "refused");
        Check.same("kept after that", Check.judged(j, 1, 1, "3; 153 3; 168 3; 177"),
            "0()[0] 3()[0] 3(3)[0|58]");
    }
}
