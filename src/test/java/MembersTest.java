/** Promises 3, 4 and 5: field, shape and takes. */
public final class MembersTest {
    private static final int INT = 65534;
    private static final int ARRAY = 65536;

    public static void main(String[] args) {
        field();
        fieldThrows();
        shape();
        shapeThrows();
        takes();
        takesThrows();
        Check.end("MembersTest");
    }

    private static void field() {
        FlowJudge j = new FlowJudge();
        Check.same("the first FIELD", j.field(0, INT), 0);
        Check.same("the second FIELD", j.field(3, 255 * ARRAY + INT), 1);
        int a = j.add(0, false);
        Check.same("the third FIELD", j.field(a, ARRAY + a), 2);
        Check.same("FIELDS have the TYPES that were told",
            Check.judged(j, 1, 1, "178 1; 58 0; 167 3; 178 2; 58 0; 167 6; 177"),
            "0()[0] 3()[" + Check.place(255 * ARRAY + INT) + "] 6()[" + Check.place(ARRAY + a) + "]");
    }

    private static void fieldThrows() {
        FlowJudge j = new FlowJudge();
        Check.badArgument("no CLASS 4", () -> j.field(4, INT));
        Check.badArgument("no CLASS -1", () -> j.field(-1, INT));
        Check.badArgument("a TYPE is no CLASS", () -> j.field(ARRAY, INT));
        Check.badArgument("no TYPE -1", () -> j.field(0, -1));
        Check.badArgument("no TYPE 4", () -> j.field(0, 4));
        Check.badArgument("no TYPE of 256 dimensions", () -> j.field(0, 256 * ARRAY));
        Check.badArgument("still no FIELD", () -> j.put(178, 0, 0));
        for (int k = 0; k < 100; k++) {
            Check.same("FIELD", j.field(1, 65528 + k % 8), k);
        }
        Check.badState("the 101st FIELD", () -> j.field(0, 0));
        Check.badArgument("no CLASS, also if there are 100", () -> j.field(4, 0));
        Check.same("the last FIELD is there", j.put(178, 99, 0), 0);
        Check.badArgument("and no other one", () -> j.put(178, 100, 0));
    }

    private static void shape() {
        FlowJudge j = new FlowJudge();
        Check.same("the first SHAPE", j.shape(0, -1, true), 0);
        Check.same("the second SHAPE", j.shape(2, INT, false), 1);
        Check.same("the third SHAPE", j.shape(1, -1, false), 2);
        Check.same("the fourth SHAPE", j.shape(1, ARRAY + 2, false), 3);
        Check.same("it has no arguments", Check.judged(j, 0, 1, "184 3; 87; 184 1; 87; 184 2; 177"), "0()[]");
    }

    private static void shapeThrows() {
        FlowJudge j = new FlowJudge();
        int i = j.add(0, true);
        Check.badArgument("no CLASS", () -> j.shape(5, -1, false));
        Check.badArgument("no CLASS -1", () -> j.shape(-1, -1, false));
        Check.badArgument("no result -2", () -> j.shape(0, -2, false));
        Check.badArgument("no result 5", () -> j.shape(0, 5, false));
        Check.badArgument("no result of 256 dimensions", () -> j.shape(0, 256 * ARRAY, false));
        Check.badArgument("a constructor's result", () -> j.shape(0, INT, true));
        Check.badArgument("a constructor's result, its CLASS", () -> j.shape(0, 0, true));
        Check.badArgument("a constructor's of an interface", () -> j.shape(i, -1, true));
        Check.badArgument("a constructor's of Cloneable", () -> j.shape(2, -1, true));
        Check.badState("still no SHAPE", () -> j.takes(0));
        for (int k = 0; k < 100; k++) {
            Check.same("SHAPE", j.shape(k % 2, -1, k % 3 == 0), k);
        }
        Check.badState("the 101st SHAPE", () -> j.shape(0, -1, false));
        Check.badArgument("no CLASS, also if there are 100", () -> j.shape(9, -1, false));
        Check.badArgument("SHAPE 100 is not there", () -> j.put(184, 100, 0));
        Check.same("SHAPE 99 is there", j.put(184, 99, 0), 0);
    }

    private static void takes() {
        FlowJudge j = new FlowJudge();
        int a = j.add(0, false);
        j.shape(0, -1, false);
        Check.same("takes int", j.takes(INT), 1);
        Check.same("takes long", j.takes(65535), 2);
        Check.same("takes a", j.takes(a), 3);
        j.shape(0, -1, false);
        Check.same("the latest SHAPE takes double", j.takes(65531), 1);
        Check.same("in the order told", Check.judged(j, 0, 4, "3; 9; 1; 184 0; 14; 184 1; 177"), "0()[]");
        Check.same("in no other order", Check.judged(j, 0, 4, "1; 9; 3; 184 0; 177"), "refused");
        Check.same("all of them", Check.judged(j, 0, 4, "3; 9; 184 0; 177"), "refused");
        Check.same("not another's", Check.judged(j, 0, 4, "3; 9; 1; 184 1; 177"), "refused");
        j.shape(0, -1, false);
        for (int k = 1; k <= 20; k++) {
            Check.same("takes one more", j.takes(65528 + k % 8), k);
        }
        Check.badState("takes a 21st", () -> j.takes(INT));
    }

    private static void takesThrows() {
        FlowJudge j = new FlowJudge();
        Check.badState("no SHAPE", () -> j.takes(0));
        Check.badArgument("no TYPE, and no SHAPE", () -> j.takes(4));
        j.shape(0, -1, false);
        Check.badArgument("takes -1", () -> j.takes(-1));
        Check.badArgument("takes 4", () -> j.takes(4));
        Check.badArgument("takes 65527", () -> j.takes(65527));
        Check.badArgument("takes 256 dimensions", () -> j.takes(256 * ARRAY));
        Check.same("it takes nothing yet", Check.judged(j, 0, 0, "184 0; 177"), "0()[]");
        Check.same("the first one", j.takes(255 * ARRAY), 1);
    }
}
