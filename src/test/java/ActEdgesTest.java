/** Promises 32 and 33: ACTS, THE TRACE. */
public final class ActEdgesTest {
    private static final int MAX = Integer.MAX_VALUE, MIN = Integer.MIN_VALUE;
    private static final Edges e = new Edges("ActEdgesTest");

    private ActEdgesTest() {
    }

    public static void main(String[] args) {
        bodies();
        wrapping();
        notThere();
        trace();
        e.close();
    }

    /** An act's answer, and the bodies that ran. */
    private static void acts(String act, int due, int... bodies) {
        e.is(act, due);
        e.is("count 5", bodies.length);
        for (int i = 0; i < bodies.length; i++) {
            e.is("trace " + i, bodies[i]);
        }
        e.is("trace " + bodies.length, Edges.NONE);
        e.is("trace -1", Edges.NONE);
    }

    /** Somebody plain ahead, so that i is 1. */
    private static void second(String sentence, int kind, int v) {
        e.begin(sentence, "person 0 0", "person " + kind + " " + v);
    }

    private static void bodies() {
        second("PERSON", 0, 3);
        acts("act 1 0 10", 11, 10);
        acts("act 1 1 10", 8, 11, 10);
        acts("act 1 2 10", 16, 12, 11, 10);
        second("WEIGHTY", 1, 3);
        acts("act 1 0 10", 11, 10);
        acts("act 1 1 10", 8 ^ 6, 20, 11, 10);
        acts("act 1 2 10", 28, 12, 20, 11, 10);
        acts("act 1 1 4", 4, 20, 11, 10);
        acts("act 1 1 8", 0, 20, 11, 10);
        acts("act 1 1 -3", -5 ^ 6, 20, 11, 10);
        second("SECRET", 2, 3);
        acts("act 1 0 10", 31, 30, 10);
        acts("act 1 1 10", 28, 11, 30, 10);
        acts("act 1 2 10", 56, 12, 11, 30, 10);
        second("MOODY", 3, 3);
        acts("act 1 0 10", 11, 10);
        acts("act 1 1 10", 8, 11, 10);
        acts("act 1 2 10", 16 + (1 + 1 - 3), 40, 12, 11, 10, 11, 10);
        second("MAYOR", 4, 3);
        acts("act 1 0 10", -11, 50, 10);
        acts("act 1 1 10", (-12 - 3) ^ 6, 51, 20, 11, 50, 10);
        acts("act 1 2 10", ((-12 - 3) ^ 6) * 2, 12, 51, 20, 11, 50, 10);
        second("SHY", 5, 3);
        acts("act 1 0 10", 31, 30, 10);
        acts("act 1 1 10", 28, 11, 30, 10);
        acts("act 1 2 10", (27 + 1 - 3) * 2, 60, 12, 11, 30, 10);
        second("TOLD", 6, 3);
        int ten = (11 ^ 3) - 3 + 3;
        int one = (2 ^ 3) - 3 + 3;
        acts("act 1 0 10", 11 ^ 3, 71, 10);
        acts("act 1 1 10", ten, 70, 11, 71, 10, 10);
        acts("act 1 2 10", ten * 2 + one, 40, 12, 70, 11, 71, 10, 10, 70, 11, 71, 10, 10);
        for (int kind = 0; kind <= 6; kind++) {
            e.begin("i the number, v the number told: the first, 0 and 9", "person " + kind + " 0", "person " + kind + " 9");
            int sign = kind == 4 ? -1 : 1;
            int times = kind == 2 || kind == 5 ? 3 : 1;
            int v = kind == 6 ? 9 : 0;
            e.is("act 0 0 0", 0);
            e.is("act 0 0 7", 7 * times * sign);
            e.is("act 1 0 7", (7 * times * sign + sign) ^ v);
        }
        e.begin("i: the last of 6", Edges.SIX);
        acts("act 5 0 1", 8, 30, 10);
        acts("act 5 2 1", ((1 - 5) * 3 + 5 - 6) * 2, 60, 12, 11, 30, 10);
        acts("act 4 1 -2", (-(-1 + 4) - 5) ^ 6, 51, 20, 11, 50, 10);
    }

    private static void wrapping() {
        second("wrapping: x + i", 0, 9);
        e.is("act 1 0 MAX", MIN);
        e.is("act 1 0 MIN", MIN + 1);
        e.is("act 1 0 2147483646", MAX);
        e.is("act 0 0 MAX", MAX);
        e.begin("wrapping: meets(x) - v", "person 0 9");
        e.is("act 0 1 MIN", MAX - 8);
        e.is("act 0 1 -2147483639", MIN);
        e.is("act 0 1 -2147483640", MAX);
        e.begin("wrapping: counts(x) * 2", "person 0 0");
        e.is("act 0 2 MAX", -2);
        e.is("act 0 2 MIN", 0);
        e.is("act 0 2 1073741823", MAX - 1);
        e.is("act 0 2 1073741824", MIN);
        e.begin("wrapping: x * 3", "person 2 0");
        e.is("act 0 0 MAX", MAX - 2);
        e.is("act 0 0 MIN", MIN);
        e.is("act 0 0 715827882", 2147483646);
        e.is("act 0 0 715827883", MIN + 1);
        e.begin("wrapping: super.tells(x) + counts(1)", "person 3 0");
        e.is("act 0 2 1073741823", MAX);
        second("wrapping: super.tells(x) + counts(1)", 3, 0);
        e.is("act 1 2 1073741822", MIN);
        e.begin("wrapping: -super.meets(x), super.counts(x + 1)", "person 4 0");
        e.is("act 0 0 MIN", MIN);
        e.is("act 0 0 MAX", MIN + 1);
        e.is("act 0 1 MAX", MIN ^ 6);
        e.is("act 0 1 -1", 6);
        second("wrapping: x - i", 5, 0);
        e.is("act 1 2 MIN", (MAX * 3 + 1) * 2);
        second("wrapping: super.counts(x) + super.meets(2)", 6, 0);
        e.is("act 1 1 2147483645", (MAX - 1) + 3);
        e.begin("wrapping: super.meets(x) ^ v", "person 6 9");
        e.is("act 0 0 MAX", MAX ^ 9);
        e.is("act 0 0 MIN", MIN ^ 9);
        e.is("act 0 0 -1", -10);
    }

    private static void notThere() {
        for (String act : new String[] {"act 6 0 5", "act -1 0 5", "act MIN 0 5", "act MAX 1 5", "act 0 -1 5", "act 0 3 5", "act 5 MIN 5",
            "act 5 MAX 5", "act 6 3 5", "act -1 -1 5"}) {
            e.begin("act: 0, and no TRACE then: no such one, act", Edges.SIX);
            acts("act 3 2 4", (((4 + 3) ^ 4) - 4 + 5) * 2 + ((1 + 3) ^ 4) - 4 + 5, 40, 12, 70, 11, 71, 10, 10, 70, 11, 71, 10, 10);
            acts(act, 0);
            e.keeps(act, 0);
            e.keeps("count 0", 6);
        }
        e.begin("act: nobody is there");
        acts("act 0 0 5", 0);
        e.run("person 0 0");
        acts("act 0 0 5", 5, 10);
        acts("act 1 0 5", 0);
        acts("act 0 2 5", 10, 12, 11, 10);
        acts("act 0 3 5", 0);
    }

    /** No act runs more than 12 bodies, so that all are kept. */
    private static void trace() {
        e.begin("THE TRACE: none yet", Edges.SIX);
        e.keepsEach(Edges.NONE, "trace 0", "trace -1", "trace 1", "trace 20", "trace MIN", "trace MAX");
        e.is("act 3 2 1", 3);
        e.keeps("count 5", 12);
        e.keeps("trace 0", 40);
        e.keeps("trace 11", 10);
        e.keepsEach(Edges.NONE, "trace -1", "trace 12", "trace 19", "trace 20", "trace 21", "trace MIN", "trace MAX");
        e.is("act 0 0 1", 1);
        e.keeps("trace 0", 10);
        e.keepsEach(Edges.NONE, "trace 1", "trace 2", "trace 11");
        e.keeps("count 5", 1);
        e.run("person 0 0", "friends 0 1 true", "year", "feed 1", "town", "image", "undo", "tape 0 0 1");
        e.keeps("trace 0", 10);
        e.keeps("count 5", 1);
    }
}
