/**
 * 3 JUDGED, "a TARGET is come to, with one CONTEXT, with what all ways to it have in common": two and three ways
 * with values of KINDS, in locals and on the stack. What two TYPES have in common is asked of the class itself:
 * that is TypesTest's to look at.
 */
public final class WaysTest {
    private static final int OWNER = 4;
    private static final int LOCALS = 7;
    private static final int FIRST = 3;
    private static final int MOST_CALLS = 512;

    /**
     * What each way does, from a stack of two ADDRESSES on: it leaves one value on the stack. Local 1 is a NEW object,
     * local 0 is THIS. What is told of it stands behind it; @ is 16 times the last INSTRUCTION of the way.
     */
    private static final String[][] KINDS = {
        {"88; 3", "1"}, {"88; 11", "2"}, {"88; 9", "3"}, {"88; 14", "4"}, {"88; 1", "5"}, {"88; 25 0", "6"},
        {"88; 18 0", "8"}, {"88; 18 1", "24"}, {"88; 18 2", "40"}, {"88; 18 3", "56"}, {"88; 18 4", "72"},
        {"88; 18 5", "88"}, {"88; 18 6", "104"}, {"88; 18 7", "120"}, {"88; 18 8", "136"},
        {"88; 18 65536", "1048584"}, {"88; 18 65540", "1048648"}, {"88; 18 65541", "1048664"}, {"88; 18 65542", "1048680"},
        {"88; 18 65544", "1048712"}, {"88; 18 131064", "2097032"}, {"88; 18 131070", "2097128"}, {"88; 18 131071", "2097144"},
        {"88; 18 131072", "2097160"}, {"88; 18 131076", "2097224"}, {"88; 18 131080", "2097288"}, {"88; 18 196606", "3145704"},
        {"88; 18 262142", "4194280"}, {"88; 18 196612", "3145800"},
        {"88; 25 1", "9"}, {"88; 187 4", "@9"}, {"87", "58"}, {"95; 87", "74"},
    };

    private static FlowJudge j;
    private static int calls = MOST_CALLS;

    public static void main(String[] args) {
        for (int x = 0; x < KINDS.length; x++) {
            for (int y = 0; y < KINDS.length; y++) {
                onTheStack(x, y);
                for (int z = 0; z < KINDS.length; z++) {
                    inALocal(x, FIRST, y, FIRST, z, FIRST);
                    onTheStack(x, y, z);
                }
                for (int at = 0; at < 9; at++) {
                    inALocal(x, FIRST + at / 3, y, FIRST + at % 3);
                }
            }
            inALocal(x, FIRST, -1, FIRST);
            inALocal(-1, FIRST, x, FIRST);
            onTheStack(x, -1);
            onTheStack(-1, x);
        }
        Check.end("WaysTest");
    }

    private static void fresh() {
        if (calls + 50 > MOST_CALLS) {
            j = new FlowJudge();
            j.add(0, false);
            j.add(4, false);
            j.add(0, true);
            j.add(1, false);
            j.add(4, false);
            calls = 5;
        }
        calls += 50;
    }

    private static int parts(String text) {
        return text.isEmpty() ? 0 : text.split(";").length;
    }

    /** What place x of a way tells, where the way's last INSTRUCTION before its store is at. */
    private static int told(String text, int at) {
        return text.startsWith("@") ? 16 * at + Integer.parseInt(text.substring(1)) : Integer.parseInt(text);
    }

    private static int store(String told) {
        String wide = "1324";
        return told.length() == 1 && wide.contains(told) ? 54 + wide.indexOf(told) : 58;
    }

    /** The METHOD begins with a NEW object in local 1 and two ADDRESSES, 3 and 4, on the stack, and a switch. */
    private static String code(String[] ways) {
        StringBuilder text = new StringBuilder("187 4; 58 1; 168 3; 168 4; 3; 170 >");
        int at = 6;
        for (String way : ways) {
            text.append(' ').append(at);
            at += parts(way) + 1;
        }
        for (String way : ways) {
            text.append("; ").append(way).append("; 167 ").append(at);
        }
        return text + "; 1; 191";
    }

    private static String lastFrame(String code) {
        fresh();
        j.method(OWNER, 2, -1, LOCALS, 4);
        Check.put(j, code);
        int count = j.judge();
        if (count < 0) {
            return "refused";
        }
        StringBuilder text = new StringBuilder();
        int places = LOCALS + j.frame(count - 1, 2);
        for (int k = FIRST; k < places; k++) {
            text.append(' ').append(j.told(count - 1, k));
        }
        return text.toString();
    }

    // ---- what is due

    private static int common(int v, int w) {
        if (v == w) {
            return v;
        }
        if (v % 16 == 8 && w % 16 == 8) {
            fresh();
            return 16 * j.common(v / 16, w / 16) + 8;
        }
        if (v == 5 && w % 16 == 8 || w == 5 && v % 16 == 8) {
            return v + w - 5;
        }
        return 0;
    }

    private static int[] common(int[] v, int[] w) {
        int[] both = new int[v.length];
        for (int k = 0; k < v.length; k++) {
            both[k] = common(v[k], w[k]);
        }
        for (int k = 0; k < both.length; k++) {
            boolean isWide = both[k] == 3 || both[k] == 4;
            boolean isBehind = k > 0 && (both[k - 1] == 3 || both[k - 1] == 4);
            if (isWide && both[k + 1] != 7 || both[k] == 7 && !isBehind) {
                both[k] = 0;
            }
        }
        return both;
    }

    private static String text(int[] cells) {
        StringBuilder text = new StringBuilder();
        for (int cell : cells) {
            text.append(' ').append(cell);
        }
        return text.toString();
    }

    /** Kind and local, kind and local, and so on; kind -1 stores nothing. */
    private static void inALocal(int... ways) {
        String[] texts = new String[ways.length / 2];
        int[] due = null;
        int at = 6;
        for (int k = 0; k < texts.length; k++) {
            int[] cells = new int[LOCALS - FIRST];
            int kind = ways[2 * k];
            int local = ways[2 * k + 1];
            texts[k] = kind < 0 ? "88" : KINDS[kind][0] + "; " + store(KINDS[kind][1]) + " " + local;
            if (kind >= 0) {
                cells[local - FIRST] = told(KINDS[kind][1], at + parts(texts[k]) - 2);
                if (cells[local - FIRST] == 3 || cells[local - FIRST] == 4) {
                    cells[local - FIRST + 1] = 7;
                }
            }
            due = due == null ? cells : common(due, cells);
            at += parts(texts[k]) + 1;
        }
        String code = code(texts);
        Check.same(code, lastFrame(code), text(due));
    }

    /** Kind -1 leaves nothing, which is another height. */
    private static void onTheStack(int... kinds) {
        String[] texts = new String[kinds.length];
        int both = -1;
        boolean kept = true;
        int at = 6;
        for (int k = 0; k < kinds.length; k++) {
            texts[k] = kinds[k] < 0 ? "88" : KINDS[kinds[k]][0];
            int v = kinds[k] < 0 ? 0 : told(KINDS[kinds[k]][1], at + parts(texts[k]) - 1);
            both = k == 0 ? v : common(both, v);
            kept = kept && both != 0;
            at += parts(texts[k]) + 1;
        }
        String code = code(texts);
        String stack = " 0 0 0 0 " + both + (both == 3 || both == 4 ? " 7" : "");
        Check.same(code, lastFrame(code), kept ? stack : "refused");
    }
}
