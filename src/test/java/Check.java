/** What all tests use: counting what is not as it is due, and telling METHODS and FRAMES in short. */
final class Check {
    private static int done = 0;
    private static int wrong = 0;

    private Check() {
    }

    static void same(String what, long got, long due) {
        done++;
        if (got != due) {
            tell(what + " answered " + got + ", due is " + due);
        }
    }

    static void same(String what, String got, String due) {
        done++;
        if (!got.equals(due)) {
            tell(what + "\n  answered " + got + "\n  due is   " + due);
        }
    }

    static void yes(String what, boolean got) {
        same(what, got ? 1 : 0, 1);
    }

    static void no(String what, boolean got) {
        same(what, got ? 1 : 0, 0);
    }

    static void badArgument(String what, Runnable call) {
        same(what, thrownBy(call), "IllegalArgumentException");
    }

    static void badState(String what, Runnable call) {
        same(what, thrownBy(call), "IllegalStateException");
    }

    private static String thrownBy(Runnable call) {
        try {
            call.run();
            return "nothing";
        } catch (RuntimeException e) {
            return e.getClass().getSimpleName();
        }
    }

    private static void tell(String fault) {
        wrong++;
        System.out.println("WRONG: " + fault);
    }

    static void end(String name) {
        System.out.println(name + ": " + done + " answers looked at, " + wrong + " wrong");
        if (wrong > 0) {
            System.exit(1);
        }
    }

    /** Puts "op a b; op a; op" and so on; behind '>' stand a switch's TARGETS, behind ':' the numbers of a ROW. */
    static void put(FlowJudge j, String text) {
        for (String part : text.split(";")) {
            String one = part.trim();
            if (one.isEmpty()) {
                continue;
            }
            if (one.startsWith(":")) {
                int[] n = numbers(one.substring(1));
                j.row(n[0], n[1], n[2], n[3]);
                continue;
            }
            int mark = one.indexOf('>');
            int[] n = numbers(mark < 0 ? one : one.substring(0, mark));
            j.put(n[0], n.length > 1 ? n[1] : 0, n.length > 2 ? n[2] : 0);
            if (mark >= 0) {
                for (int k : numbers(one.substring(mark + 1))) {
                    j.to(k);
                }
            }
        }
    }

    /** The same for a NaiveJudge, without ROWS and switches. */
    static void put(NaiveJudge j, String text) {
        for (String part : text.split(";")) {
            int[] n = numbers(part);
            j.code.add(new NaiveJudge.Instruction(n[0], n.length > 1 ? n[1] : 0, n.length > 2 ? n[2] : 0));
        }
    }

    private static int[] numbers(String text) {
        String line = text.trim();
        if (line.isEmpty()) {
            return new int[0];
        }
        String[] words = line.split("\\s+");
        int[] n = new int[words.length];
        for (int k = 0; k < n.length; k++) {
            n[k] = Integer.parseInt(words[k]);
        }
        return n;
    }

    /** All FRAMES of a judge that answered count: INSTRUCTION(CONTEXT)[locals|stack], and ! if THIS was made. */
    static String frames(FlowJudge j, int count, int locals) {
        if (count < 0) {
            noFrames(j);
            return "refused";
        }
        StringBuilder text = new StringBuilder();
        for (int n = 0; n < count; n++) {
            text.append(n > 0 ? " " : "").append(j.frame(n, 0)).append('(');
            for (int i = 0; i < j.frame(n, 1); i++) {
                text.append(i > 0 ? "," : "").append(j.context(n, i));
            }
            text.append(")[");
            for (int i = 0; i < locals + j.frame(n, 2); i++) {
                text.append(i == locals ? "|" : i > 0 ? "," : "").append(j.told(n, i));
            }
            text.append(']').append(j.frame(n, 3) == 1 ? "!" : "");
        }
        return text.toString();
    }

    /** There are no FRAMES, by whatever call they are asked for. */
    static void noFrames(FlowJudge j) {
        for (int what = 0; what < 4; what++) {
            same("frame(0, " + what + ") without FRAMES", j.frame(0, what), -1);
        }
        same("context(0, 0) without FRAMES", j.context(0, 0), -1);
        same("told(0, 0) without FRAMES", j.told(0, 0), -1);
        same("digest without FRAMES", j.digest(), 7);
    }

    /** Judges a static METHOD of CLASS 0 without arguments and result. */
    static String judged(FlowJudge j, int locals, int stack, String text) {
        j.method(0, 0, -1, locals, stack);
        put(j, text);
        return frames(j, j.judge(), locals);
    }

    /** Judges a METHOD that is told as "owner how result locals stack arguments / INSTRUCTIONS and ROWS". */
    static String judged(FlowJudge j, String method) {
        int mark = method.indexOf('/');
        int[] head = numbers(method.substring(0, mark));
        j.method(head[0], head[1], head[2], head[3], head[4]);
        for (int k = 5; k < head.length; k++) {
            j.argument(head[k]);
        }
        put(j, method.substring(mark + 1));
        return frames(j, j.judge(), head[3]);
    }

    static int place(int type) {
        return 16 * type + 8;
    }
}
