/** Promise 6, and how one COUNTS: COMMON, by KIND, v, YEAR, FRIENDS; which PAIRS there are. */
public final class CommonEdgesTest {
    private static final Edges e = new Edges("CommonEdgesTest");

    private CommonEdgesTest() {
    }

    public static void main(String[] args) {
        at();
        plainAndWeighty();
        secret();
        moody();
        mayor();
        shy();
        told();
        common();
        e.close();
    }

    private static void at() {
        int[] pairs = {0, 0, 1, 3, 6, 10, 15};
        for (int people = 0; people <= 6; people++) {
            e.begin("at: no PAIR beyond those there are", java.util.Arrays.copyOf(Edges.SIX, people));
            e.keepsEach(Edges.NONE, "at " + pairs[people] + " 0", "at -1 0", "at MIN 0", "at MAX 0", "at " + pairs[people] + " -1");
            if (people > 1) {
                e.keeps("at " + (pairs[people] - 1) + " 0", 0);
                e.keeps("at " + (pairs[people] - 1) + " 5", people - 1);
            }
        }
        e.begin("at: what 0 .. 5", "person 0 0", "person 0 0", "person 0 0", "person 0 0", "friends 3 1 true", "friends 0 1 true",
            "friends 0 3 true", "'want 7 a=1;break 8 b=3", "town");
        int[] due = {1, 1, 7, 8, 1, 3};
        for (int what = 0; what <= 5; what++) {
            e.keeps("at 4 " + what, due[what]);
        }
        e.keepsEach(Edges.NONE, "at 4 -1", "at 4 6", "at 4 MIN", "at 4 MAX", "at 6 0", "at 6 6", "at -1 -1");
    }

    /** Two plain ones, the third of a KIND and with v, a friend of both. */
    private static void third(String sentence, int kind, int v, String... calls) {
        e.begin(sentence, "person 0 0", "person 0 0", "person " + kind + " " + v, "friends 0 2 true", "friends 1 2 true");
        e.run(calls);
    }

    private static void plainAndWeighty() {
        for (int v = 0; v <= 9; v++) {
            third("PERSON: 1, whatever v", 0, v);
            e.keeps("at 0 1", 1);
            third("WEIGHTY: 1, 2, if v is odd", 1, v);
            e.keeps("at 0 1", v % 2 == 0 ? 1 : 2);
            e.run("friends 0 1 true", "year");
            e.keeps("at 0 1", v % 2 == 0 ? 1 : 2);
            e.run("person 0 0");
            e.keeps("at 0 1", v % 2 == 0 ? 1 : 2);
        }
    }

    private static void secret() {
        for (int v = 0; v <= 9; v++) {
            third("SECRET: 1, if the two are not FRIENDS, else 0", 2, v);
            e.keeps("at 0 1", 1);
            e.run("friends 0 1 true");
            e.keeps("at 0 1", 0);
            e.run("friends 0 1 false", "year");
            e.keeps("at 0 1", 1);
        }
        third("SECRET: more than 3 FRIENDS are none too many", 2, 0, "person 0 0", "person 0 0", "friends 2 3 true", "friends 2 4 true");
        e.keeps("at 0 1", 1);
    }

    private static void moody() {
        for (int v = 0; v <= 9; v++) {
            third("MOODY: 0, if YEAR is a multiple of (v and 2, together)", 3, v);
            int span = v + 2;
            for (int year = 0; year <= 2 * span + 1; year++) {
                boolean isMultiple = year == 0 || year == span || year == 2 * span;
                e.keeps("at 0 1", isMultiple ? 0 : 1);
                e.run("year");
            }
        }
    }

    private static void mayor() {
        for (int v = 0; v <= 9; v++) {
            third("MAYOR: as WEIGHTY, but 0, if it is not a FRIEND of all others", 4, v);
            int weight = v % 2 == 0 ? 1 : 2;
            e.keeps("at 0 1", weight);
            e.run("friends 0 1 true");
            e.keeps("at 0 1", weight);
            for (int other = 3; other <= 5; other++) {
                e.run("person 0 0");
                e.keeps("at 0 1", 0);
                e.run("friends 2 " + other + " true");
                e.keeps("at 0 1", weight);
            }
            e.run("friends 2 3 false");
            e.keeps("at 0 1", 0);
        }
    }

    private static void shy() {
        third("SHY: as SECRET, but 0, if it has more than 3 FRIENDS", 5, 1, "person 0 0", "person 0 0", "person 0 0");
        e.keeps("at 0 1", 1);
        e.run("friends 2 3 true");
        e.keeps("at 0 1", 1);
        e.run("friends 0 1 true");
        e.keeps("at 0 1", 0);
        e.run("friends 0 1 false", "friends 2 4 true");
        e.keeps("at 0 1", 0);
        e.run("friends 2 5 true");
        e.keeps("at 0 1", 0);
        e.run("friends 2 5 false", "friends 2 3 false");
        e.keeps("at 0 1", 1);
    }

    private static void told() {
        third("TOLD: its ROW at YEAR modulo 4, 0 at first", 6, 1);
        for (int year = 0; year < 5; year++) {
            e.keeps("at 0 1", 0);
            e.run("year");
        }
        for (int n = 0; n <= 3; n++) {
            third("TOLD: four numbers 0 .. 3", 6, 9, "row 2 0 " + n, "row 2 1 " + (n + 1) % 4, "row 2 2 " + (n + 2) % 4, "row 2 3 " + (n + 3) % 4);
            for (int year = 0; year <= 8; year++) {
                e.keeps("at 0 1", (n + year) % 4);
                e.run("year");
            }
        }
    }

    private static void common() {
        e.begin("COMMON: what all COUNT that are FRIENDS of both, together", Edges.SIX);
        e.keeps("at 0 1", 0);
        e.run("friends 0 1 true", "friends 0 2 true", "friends 0 3 true", "friends 0 4 true", "friends 0 5 true");
        e.keeps("at 0 1", 0);
        e.keeps("at 2 1", 1);
        e.keeps("at 14 1", 1);
        e.begin("COMMON: the four others, each with the most that it COUNTS", "person 0 0", "person 0 0", "person 6 0", "person 6 0",
            "person 6 0", "person 6 0", "row 2 0 3", "row 3 0 3", "row 4 0 3", "row 5 0 3");
        for (int other = 2; other <= 5; other++) {
            e.run("friends 0 " + other + " true");
            e.keeps("at 0 1", 3 * (other - 2));
            e.run("friends 1 " + other + " true");
            e.keeps("at 0 1", 3 * (other - 1));
        }
        e.begin("RIGHT: as many; AMISS by how many more or fewer", "person 0 0", "person 0 0", "person 6 0", "friends 0 2 true", "friends 1 2 true",
            "'want 2 a=0&b=1;want 0 a=0", "town");
        int[] by = {2, 1, 0, 1};
        for (int n = 0; n <= 3; n++) {
            e.run("row 2 0 " + n);
            e.keeps("amiss 2", by[n]);
            e.keeps("amiss 1", n == 2 ? 0 : 1);
        }
    }
}
