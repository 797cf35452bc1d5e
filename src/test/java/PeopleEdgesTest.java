/** Promises 1 to 5, 7, 10, 11, 34, 35: people, their kinds and numbers, who are friends, pairs, years. */
public final class PeopleEdgesTest {
    private static final int[] ABOVE = {-1, 0, 0, 0, 1, 2, 3};
    private static final Edges e = new Edges("PeopleEdgesTest");

    private PeopleEdgesTest() {
    }

    public static void main(String[] args) {
        newObject();
        person();
        newcomers();
        of();
        friends();
        pair();
        row();
        year();
        told();
        taken();
        count();
        e.close();
    }

    private static void newObject() {
        e.begin("OneFriend(): nobody, no TOWN");
        for (int what = 0; what <= 5; what++) {
            e.keeps("count " + what, 0);
        }
        e.keeps("of 0 0", Edges.NONE);
        e.keeps("at 0 0", Edges.NONE);
        e.keeps("undo", Edges.STATE);
        e.keeps("trace 0", Edges.NONE);
        for (int tape = 0; tape < 6; tape++) {
            e.keeps("item " + tape + " 0 1", Edges.NOTHING);
        }
        e.run("person 0 0", "person 0 0");
        e.keeps("at 0 2", 1);
        e.keeps("at 0 3", 1);
    }

    private static void person() {
        for (int kind = 0; kind <= 6; kind++) {
            e.begin("person: KINDS 0 .. 6");
            e.is("person " + kind + " 5", 0);
            e.keeps("of 0 0", kind);
            e.begin("person: FULL: 6, of whatever KIND", Edges.SIX);
            e.keeps("person " + kind + " 0", Edges.FULL);
        }
        for (int v = 0; v <= 9; v++) {
            e.begin("person: v 0 .. 9");
            e.is("person 0 " + v, 0);
            e.keeps("of 0 1", v);
        }
        for (String[] scene : new String[][] {{}, Edges.CROWDED}) {
            e.begin("person: NONE: kind; BAD: v", scene);
            e.keepsEach(Edges.NONE, "person -1 0", "person 7 0", "person MIN 0", "person MAX 0");
            e.keepsEach(Edges.BAD, "person 0 -1", "person 0 10", "person 6 -1", "person 6 10", "person 0 MIN", "person 0 MAX");
            e.begin("person: NONE ahead of BAD", scene);
            e.keepsEach(Edges.NONE, "person -1 -1", "person 7 10", "person -1 10", "person 7 -1");
        }
        e.begin("person: 6, as they come");
        for (int i = 0; i < 6; i++) {
            e.keeps("of " + i + " 0", Edges.NONE);
            e.is("person " + i + " " + i, i);
            e.keeps("count 0", i + 1);
            e.keeps("of " + i + " 0", i);
        }
        e.keepsEach(Edges.FULL, "person 0 0", "person 6 9");
        e.begin("person: NONE and BAD ahead of FULL", Edges.SIX);
        e.keepsEach(Edges.NONE, "person 7 0", "person -1 0", "person 7 10");
        e.keepsEach(Edges.BAD, "person 0 10", "person 0 -1");
    }

    private static void newcomers() {
        e.begin("FRIENDS: not at first; ROW, COMPLAINTS: 0 at first");
        for (int i = 0; i < 6; i++) {
            e.is("person 6 1", i);
            e.keeps("of " + i + " 2", 0);
            e.keeps("of " + i + " 4", 0);
        }
        for (int pair = 0; pair < 15; pair++) {
            e.keeps("at " + pair + " 0", 0);
        }
        for (int i = 0; i < 6; i++) {
            for (int part = 0; part < 4; part++) {
                e.is("row " + i + " " + part + " 0", 0);
            }
        }
        e.begin("not at first, 0 at first: also where one was who is not there after undo()", "person 6 0", "image", "person 6 0",
            "friends 0 1 true", "row 1 0 3", "row 1 1 3", "row 1 2 3", "row 1 3 3", "complain 1 5", "undo");
        e.is("person 6 0", 1);
        e.keeps("of 0 2", 0);
        e.keeps("of 1 2", 0);
        e.keeps("of 1 4", 0);
        for (int part = 0; part < 4; part++) {
            e.is("row 1 " + part + " 0", 0);
        }
    }

    private static void of() {
        e.begin("of: what 0 .. 4", "person 4 9", "person 0 0", "friends 0 1 true", "complain 0 3");
        int[] due = {4, 9, 2, 1, 3};
        for (int what = 0; what <= 4; what++) {
            e.keeps("of 0 " + what, due[what]);
        }
        e.keepsEach(Edges.NONE, "of 0 -1", "of 0 5", "of 0 MIN", "of 0 MAX");
        e.begin("of: NONE: no such one");
        e.keepsEach(Edges.NONE, "of 0 0", "of -1 0", "of 0 5");
        e.run("person 3 2");
        e.keeps("of 0 0", 3);
        e.keepsEach(Edges.NONE, "of 1 0", "of -1 0", "of 1 5", "of MIN 0", "of MAX 0");
        e.begin("of: the last of 6", Edges.SIX);
        e.keeps("of 5 0", 5);
        e.keepsEach(Edges.NONE, "of 6 0", "of -1 0", "of MAX 4", "of MIN 4");
        e.begin("FRIENDS (bits): the lowest and the highest", Edges.SIX);
        e.run("friends 0 5 true");
        e.keeps("of 0 2", 32);
        e.keeps("of 5 2", 1);
        e.run("friends 0 1 true", "friends 0 2 true", "friends 0 3 true", "friends 0 4 true");
        e.keeps("of 0 2", 62);
        e.begin("COMPLAINS: 0, and all 5 of one's PAIRS", Edges.SIX);
        e.keeps("of 0 3", 5);
        e.keeps("of 5 3", 5);
        e.run("'want 0 a<9", "town");
        e.keeps("of 0 3", 0);
        e.keeps("of 5 3", 0);
        e.begin("COMPLAINS of the only one", "person 0 0");
        e.keeps("of 0 3", 0);
    }

    private static void friends() {
        for (String[] scene : new String[][] {{"person 0 0", "person 0 0"}, Edges.SIX}) {
            int last = scene.length - 1;
            e.begin("friends: whether they were", scene);
            e.is("friends 0 " + last + " false", 0);
            e.is("friends 0 " + last + " true", 0);
            e.keeps("friends 0 " + last + " true", 1);
            e.keeps("friends " + last + " 0 true", 1);
            e.is("friends " + last + " 0 false", 1);
            e.keeps("friends 0 " + last + " false", 0);
            e.keeps("told 2", 0);
            e.begin("friends: NONE; BAD: one of the PEOPLE", scene);
            for (String are : new String[] {" true", " false"}) {
                e.keepsEach(Edges.NONE, "friends -1 0" + are, "friends 0 -1" + are, "friends " + (last + 1) + " 0" + are,
                    "friends 0 " + (last + 1) + are, "friends MIN 0" + are, "friends 0 MAX" + are);
                e.keepsEach(Edges.BAD, "friends 0 0" + are, "friends " + last + " " + last + are);
            }
            e.begin("friends: NONE ahead of BAD", scene);
            e.keepsEach(Edges.NONE, "friends -1 -1 true", "friends " + scene.length + " " + scene.length + " true", "friends MAX MAX true");
        }
        e.begin("friends: nobody, and the only one");
        e.keeps("friends 0 0 true", Edges.NONE);
        e.run("person 0 0");
        e.keeps("friends 0 0 true", Edges.BAD);
        e.keeps("friends 0 1 true", Edges.NONE);
        e.begin("friends: refused among friends", Edges.CROWDED);
        e.keepsEach(Edges.NONE, "friends 0 5 true", "friends 5 0 false", "friends -1 1 false", "friends 1 -1 false");
        e.keepsEach(Edges.BAD, "friends 1 1 true", "friends 1 1 false", "friends 4 4 false");
        e.keeps("friends 1 0 true", 1);
        e.keeps("friends 3 4 false", 0);
    }

    private static void pair() {
        e.begin("PAIRS: 0 and 1, 0 and 2, 1 and 2, 0 and 3 ..", Edges.SIX);
        int number = 0;
        for (int greater = 1; greater < 6; greater++) {
            for (int lesser = 0; lesser < greater; lesser++) {
                e.keeps("pair " + lesser + " " + greater, number);
                e.keeps("pair " + greater + " " + lesser, number);
                e.keeps("at " + number + " 4", lesser);
                e.keeps("at " + number + " 5", greater);
                number++;
            }
        }
        e.begin("pair: NONE; BAD: one of the PEOPLE", Edges.SIX);
        e.keepsEach(Edges.NONE, "pair -1 0", "pair 0 -1", "pair 6 0", "pair 0 6", "pair MIN 0", "pair 0 MAX");
        e.keepsEach(Edges.BAD, "pair 0 0", "pair 5 5");
        e.keepsEach(Edges.NONE, "pair -1 -1", "pair 6 6", "pair MAX MAX", "pair MIN MIN");
        e.begin("pair: as many as there are", "person 0 0");
        e.keeps("pair 0 1", Edges.NONE);
        e.keeps("pair 1 1", Edges.NONE);
        e.keeps("pair 0 0", Edges.BAD);
        e.run("person 0 0");
        e.keeps("pair 0 1", 0);
        e.keeps("pair 1 1", Edges.BAD);
        e.keeps("pair 0 2", Edges.NONE);
    }

    private static void row() {
        String[] scene = {"person 6 0", "person 3 0", "person 6 9"};
        e.begin("row: YEARS modulo 4 being part; n 0 .. 3; what it was", scene);
        for (int part = 0; part < 4; part++) {
            e.is("row 0 " + part + " 3", 0);
            e.is("row 0 " + part + " " + part, 3);
            e.keeps("row 0 " + part + " " + part, part);
            e.keeps("row 2 " + part + " 0", 0);
        }
        e.run("row 2 3 3", "row 2 0 1");
        e.keepsEach(Edges.NONE, "row 0 -1 0", "row 0 4 0", "row 0 MIN 0", "row 0 MAX 0", "row -1 0 0", "row 3 0 0", "row MIN 0 0", "row MAX 0 0");
        e.keepsEach(Edges.BAD, "row 0 0 -1", "row 0 0 4", "row 2 3 4", "row 2 3 -1", "row 0 0 MIN", "row 0 0 MAX");
        e.keepsEach(Edges.STATE, "row 1 0 0", "row 1 3 3");
        e.begin("row: NONE, BAD, STATE, the first that is named", scene);
        e.keepsEach(Edges.NONE, "row 3 0 4", "row 0 4 4", "row 0 -1 -1", "row 1 4 0", "row 1 -1 4", "row -1 4 4");
        e.keepsEach(Edges.BAD, "row 1 0 4", "row 1 3 -1");
        e.begin("row: each of six has its own, of four parts, which the YEARS leave", "person 6 0", "person 6 1", "person 6 2", "person 6 3",
            "person 6 4", "person 6 5");
        for (int place = 0; place < 24; place++) {
            int told = 1 + place % 3;
            e.is("row " + place / 4 + " " + place % 4 + " " + told, 0);
        }
        e.repeat(6, "year");
        for (int place = 0; place < 24; place++) {
            int told = 1 + place % 3;
            e.is("row " + place / 4 + " " + place % 4 + " " + told, told);
        }
        for (int kind = 0; kind <= 5; kind++) {
            e.begin("row: STATE: another KIND", "person " + kind + " 1");
            e.keeps("row 0 0 1", Edges.STATE);
        }
        e.begin("row: among all that there is", Edges.CROWDED);
        e.keepsEach(Edges.NONE, "row 5 0 0", "row 1 4 0");
        e.keeps("row 1 2 4", Edges.BAD);
        e.keeps("row 4 0 0", Edges.STATE);
        e.keeps("row 1 2 3", 3);
    }

    private static void year() {
        e.begin("YEAR: 0 at first; a YEAR goes: 1 more");
        e.keeps("told 0", 0);
        e.is("year", 1);
        e.keeps("told 0", 1);
        e.is("year", 2);
        e.begin("year: as far as 512 calls go; 999 is farther");
        for (int year = 1; year <= 290; year++) {
            e.is("year", year);
        }
        e.keeps("told 0", 290);
        Script alone = new Script();
        for (int year = 1; year < 512; year++) {
            alone.call("year");
        }
        e.begin("year: the last of 512 calls");
        e.answer("told 0", 511, alone.call("told 0"));
    }

    private static void told() {
        int[] pairs = {0, 0, 1, 3, 6, 10, 15};
        for (int people = 0; people <= 6; people++) {
            e.begin("told: how many PAIRS there are", java.util.Arrays.copyOf(Edges.SIX, people));
            e.keeps("told 1", pairs[people]);
            e.keeps("told 2", 0);
            e.keepsEach(Edges.NONE, "told -1", "told 3", "told MIN", "told MAX");
        }
        e.begin("told: how many are FRIENDS, all", Edges.SIX);
        int many = 0;
        for (int greater = 1; greater < 6; greater++) {
            for (int lesser = 0; lesser < greater; lesser++) {
                e.run("friends " + greater + " " + lesser + " true");
                many++;
                e.keeps("told 2", many);
            }
        }
    }

    private static void taken() {
        for (int kind = 0; kind <= 6; kind++) {
            e.begin("taken: one of KIND k, or one under that", "person " + kind + " 0");
            for (int k = 0; k <= 6; k++) {
                boolean isUnder = k == kind || k == ABOVE[kind] || k == 0;
                e.keeps("taken 0 " + k, isUnder ? kind : Edges.CAST);
            }
            e.keepsEach(Edges.BAD, "taken 0 -1", "taken 0 7", "taken 0 MIN", "taken 0 MAX");
            e.keepsEach(Edges.NOTHING, "taken 1 0", "taken -1 0", "taken 1 6", "taken MIN 0", "taken MAX 0");
        }
        e.begin("taken: BAD ahead of NOTHING");
        e.keeps("taken 0 0", Edges.NOTHING);
        e.keepsEach(Edges.BAD, "taken 0 7", "taken -1 -1", "taken 6 7");
        e.begin("taken: the last of 6", Edges.SIX);
        e.keeps("taken 5 2", 5);
        e.keeps("taken 5 1", Edges.CAST);
        e.keeps("taken 6 2", Edges.NOTHING);
    }

    private static void count() {
        e.begin("count: what 0 .. 5", Edges.CROWDED);
        int[] due = {5, 2, 3, 3, 13, 12};
        for (int what = 0; what <= 5; what++) {
            e.keeps("count " + what, due[what]);
        }
        e.keepsEach(Edges.BAD, "count -1", "count 6", "count MIN", "count MAX");
    }
}
