import java.util.Arrays;

/** Promises 12, 13, 16, 17, 20 to 22: what is AMISS, who is ALL'S, who GOES, BEFRIENDS, FAR, TOWNS, NEXT. */
public final class AmissEdgesTest {
    private static final String[] ALL_FRIENDS = allFriends();
    private static final Edges e = new Edges("AmissEdgesTest");

    private AmissEdgesTest() {
    }

    public static void main(String[] args) {
        amiss();
        alls();
        goes();
        befriends();
        far();
        towns();
        next();
        e.close();
    }

    private static String[] allFriends() {
        String[] calls = new String[15];
        int many = 0;
        for (int greater = 1; greater < 6; greater++) {
            for (int lesser = 0; lesser < greater; lesser++) {
                calls[many] = "friends " + lesser + " " + greater + " true";
                many++;
            }
        }
        return calls;
    }

    /** So many plain people. */
    private static String[] plain(int people) {
        String[] calls = new String[people];
        Arrays.fill(calls, "person 0 0");
        return calls;
    }

    private static void amiss() {
        int[] pairs = {0, 0, 1, 3, 6, 10, 15};
        for (int people = 0; people <= 6; people++) {
            e.begin("AMISS: all PAIRS of strangers", plain(people));
            e.keeps("amiss 0", (1 << pairs[people]) - 1);
            e.keeps("amiss 1", pairs[people]);
            e.keeps("amiss 2", pairs[people]);
            e.keepsEach(Edges.NONE, "amiss -1", "amiss 3", "amiss MIN", "amiss MAX");
        }
        e.begin("AMISS: none", plain(3));
        e.run("friends 0 1 true", "friends 0 2 true", "friends 1 2 true");
        e.keepsEach(0, "amiss 0", "amiss 1", "amiss 2");
        e.begin("AMISS: by how many more or fewer, together", plain(6));
        e.run(ALL_FRIENDS);
        e.keeps("amiss 2", 15 * 3);
        e.run("'" + Edges.most("want"), "town");
        e.keeps("amiss 2", 15 * 788);
        e.run("'want 99 a=4;want 5 a=0", "town");
        e.keeps("amiss 0", 32767);
        e.keeps("amiss 2", 95 + 5 + 9 * 4);
        e.run("'want 4 b=5;want 4 b<5", "town");
        e.keepsEach(0, "amiss 0", "amiss 1", "amiss 2");
    }

    private static void alls() {
        e.begin("ALL'S: nobody is there");
        e.keeps("alls", 0);
        e.run("person 0 0");
        e.keeps("alls", 1);
        e.run("person 0 0");
        e.keeps("alls", 0);
        e.run("friends 0 1 true");
        e.keeps("alls", 3);
        e.run("person 0 0", "friends 1 2 true");
        e.keeps("alls", 2);
        e.begin("ALL'S: those who are FRIENDS of all others, 6", Edges.SIX);
        e.keeps("alls", 0);
        e.run("friends 5 0 true", "friends 5 1 true", "friends 5 2 true", "friends 5 3 true");
        e.keeps("alls", 0);
        e.run("friends 5 4 true");
        e.keeps("alls", 32);
        e.run(ALL_FRIENDS);
        e.keeps("alls", 63);
        e.run("friends 0 5 false");
        e.keeps("alls", 30);
    }

    private static void goes() {
        e.begin("GOES: -5: nobody is there");
        e.keepsEach(Edges.NOT_ANY, "goes 0", "goes 1");
        e.keepsEach(Edges.NONE, "goes -1", "goes 2", "goes MIN", "goes MAX");
        e.run("person 0 0");
        e.keepsEach(0, "goes 0", "goes 1");
        e.keepsEach(Edges.NONE, "goes -1", "goes 2");
        e.begin("GOES: of several the first", plain(6));
        e.keeps("goes 0", 0);
        e.keeps("goes 1", 10);
        e.begin("GOES: the last", plain(6));
        e.run("'want 1 b=5", "town");
        e.keeps("goes 0", 5);
        e.keeps("goes 1", 0);
        e.begin("GOES: all others keeping their numbers", plain(3));
        e.run("'want 1 a=1&b=2", "town");
        e.keeps("goes 0", 1);
        e.keeps("goes 1", 0);
        e.run("'want 1 a=0&b=1", "town");
        e.keeps("goes 0", 0);
        e.begin("GOES: as if that one were not there: one who COUNTS no more", plain(3));
        e.run("friends 0 2 true", "friends 1 2 true", "'want 0 a<9", "town");
        e.keeps("goes 0", 0);
        e.keeps("goes 1", 0);
        e.run("person 0 0", "friends 0 3 true", "friends 1 3 true", "'want 2 a=2", "town");
        // Without 0 or 1, the PAIR of 2 and 3 has but one in common; without 2 that of 0 and 1 has one, where none is wanted.
        e.keeps("goes 0", 0);
        e.keeps("goes 1", 1);
        e.begin("GOES: a MAYOR's all others are those who are there", "person 0 0", "person 0 0", "person 0 0", "person 4 0",
            "friends 1 3 true", "friends 2 3 true", "'want 1 a=1&b=2", "town");
        e.keeps("goes 0", 0);
        e.keeps("goes 1", 0);
        e.begin("GOES: a SHY one has fewer FRIENDS then", "person 5 0", "person 0 0", "person 0 0", "person 0 0", "person 0 0",
            "friends 0 1 true", "friends 0 2 true", "friends 0 3 true", "friends 0 4 true", "'want 1 a>0", "town");
        e.keeps("amiss 1", 6);
        e.keeps("goes 0", 1);
        e.keeps("goes 1", 0);
        e.begin("GOES: d and e tell of those who are there", plain(3));
        e.run("friends 0 1 true", "friends 0 2 true", "'want 1 d=2|e=2;want 1 a=1", "town");
        // As it is 0 has two; without 1 or 2 it has one.
        e.keeps("goes 0", 1);
        e.keeps("goes 1", 0);
        e.begin("GOES: the fewest PAIRS, by however much", plain(4));
        e.run("'want 9 b=1;want 1 b=3", "town");
        e.keeps("goes 0", 3);
        e.keeps("goes 1", 1);
        e.begin("GOES: of several the first, by however much", plain(3));
        e.run("'want 1 b=1;want 5 a=0&b=2;want 9 a=1", "town");
        e.keeps("goes 0", 0);
        e.keeps("goes 1", 1);
    }

    private static void befriends() {
        int[] kinds = {0, 1, 2, 3, 4, 5, 6};
        for (String[] scene : new String[][] {{}, {"person 0 0"}, Edges.CROWDED, Edges.SIX}) {
            e.begin("befriends: NONE: kind, what; BAD: v", scene);
            e.keepsEach(Edges.NONE, "befriends -1 0 0", "befriends 7 0 0", "befriends MIN 0 0", "befriends MAX 0 0", "befriends 0 0 -1",
                "befriends 0 0 2", "befriends 0 0 MIN", "befriends 0 0 MAX");
            e.keepsEach(Edges.BAD, "befriends 0 -1 0", "befriends 0 10 0", "befriends 6 MIN 1", "befriends 0 MAX 1");
            e.begin("befriends: NONE ahead of BAD", scene);
            e.keepsEach(Edges.NONE, "befriends -1 -1 0", "befriends 7 10 0", "befriends 0 10 2", "befriends 0 -1 -1");
        }
        e.begin("befriends: 5 PEOPLE at most, else -9", Edges.SIX);
        for (int kind : kinds) {
            e.keepsEach(Edges.NO_ROOM, "befriends " + kind + " 0 0", "befriends " + kind + " 9 1");
        }
        e.begin("befriends: nobody is there");
        for (int kind : kinds) {
            e.keepsEach(0, "befriends " + kind + " 9 0", "befriends " + kind + " 0 1");
        }
        e.begin("befriends: 5 PEOPLE, all of whom are the set", plain(5));
        e.run("'want 1 f=0&b=5;want 1 b<5", "town");
        e.keeps("befriends 0 0 0", 31);
        e.keeps("befriends 0 0 1", 0);
        e.run("'want 0 b<5;want 1 f=0&a=4", "town");
        e.keeps("befriends 0 0 0", 16);
        e.keeps("befriends 0 0 1", 0);
        e.begin("befriends: of several the least set", plain(5));
        e.run("'want 0 a=0", "town");
        e.keeps("befriends 0 0 0", 0);
        e.keeps("befriends 0 0 1", 0);
        e.run("'want 1 b=5&a<2&d=0&e=0", "town");
        // Neither 0 nor 1 may be a stranger, or the newcomer none with no FRIENDS: 1 has a FRIEND then, but so has 5.
        e.keeps("befriends 0 0 0", 1);
        befriendsFewest();
        befriendsAmongOthers();
        kindsOfNewcomers();
    }

    private static void befriendsFewest() {
        // By 1 the PAIR of 1 and the newcomer is AMISS by 90, but it alone; by none both are by 1, by 2 and 3, too, two are.
        e.begin("befriends: the fewest PAIRS, by however much", plain(2));
        e.run("'want 1 a=0&b=2&f=0;want 1 a=1&f=0&e=0;want 90 a=1&f=0&e=1;want 2 a=1&f=1", "town");
        e.keeps("befriends 0 0 0", 1);
        e.keeps("befriends 0 0 1", 1);
        e.begin("befriends: of several the least set, by however much", plain(2));
        e.run("'want 1 a=0&b=2&f=0;want 1 a=1&f=0&e=0;want 90 a=1&f=0&e=1", "town");
        e.keeps("befriends 0 0 0", 1);
        e.keeps("befriends 0 0 1", 1);
        // 2 has to be a FRIEND, or both others.
        e.begin("befriends: of several the least set, not the one of the fewest FRIENDS", plain(3));
        e.run("'want 1 b=1&d=1&e=1;want 1 a=2&f=0&e<2", "town");
        e.keeps("befriends 0 0 0", 3);
        e.keeps("befriends 0 0 1", 0);
    }

    private static void befriendsAmongOthers() {
        e.begin("befriends: the newcomer is one of a MAYOR's all others", "person 0 0", "person 0 0", "person 4 0", "friends 0 2 true",
            "friends 1 2 true", "'want 1 b=1", "town");
        e.keeps("amiss 1", 0);
        e.keeps("befriends 0 0 0", 0);
        e.keeps("befriends 0 0 1", 1);
        e.begin("befriends: d and e tell of the newcomer, too", plain(2));
        e.run("'want 1 b=1&d=0", "town");
        e.keeps("befriends 0 0 0", 1);
        e.keeps("befriends 0 0 1", 0);
        e.run("'want 1 b=1&e=0", "town");
        e.keeps("befriends 0 0 0", 2);
        e.keeps("befriends 0 0 1", 0);
        e.begin("befriends: the newcomer is one of a SHY one's FRIENDS", "person 5 0", "person 0 0", "person 0 0", "person 0 0",
            "friends 0 1 true", "friends 0 2 true", "friends 0 3 true", "'want 0 a<9", "town");
        e.keeps("amiss 1", 3);
        e.keeps("befriends 0 0 0", 1);
        e.keeps("befriends 0 0 1", 0);
    }

    /** A PAIR of strangers that wants n in common: whether the newcomer can be it. */
    private static void newcomer(String what, String kindAndV, int wanted, int set, int many, String... calls) {
        e.begin("befriends: that KIND and v: " + what, "person 0 0", "person 0 0", "'want " + wanted + " a=0&b=1", "town");
        e.run(calls);
        e.keeps("befriends " + kindAndV + " 0", set);
        e.keeps("befriends " + kindAndV + " 1", many);
    }

    private static void kindsOfNewcomers() {
        newcomer("PERSON", "0 9", 1, 3, 0);
        newcomer("PERSON", "0 9", 2, 0, 1);
        newcomer("WEIGHTY, v even", "1 8", 2, 0, 1);
        newcomer("WEIGHTY, v odd", "1 9", 2, 3, 0);
        newcomer("SECRET", "2 0", 1, 3, 0);
        newcomer("MOODY in YEAR 0", "3 0", 1, 0, 1);
        newcomer("MOODY in YEAR 1", "3 0", 1, 3, 0, "year");
        newcomer("MAYOR", "4 9", 2, 3, 0);
        newcomer("SHY", "5 0", 1, 3, 0);
        newcomer("TOLD: 0 at first", "6 0", 1, 0, 1);
        newcomer("TOLD: 0 at first, also where a TOLD one was", "6 0", 1, 0, 1, "image", "person 6 0", "row 2 0 1", "undo");
        newcomer("nobody's FRIEND, where one was", "0 0", 0, 0, 0, "image", "person 0 0", "friends 0 2 true", "friends 1 2 true", "undo");
    }

    private static void far() {
        e.begin("FAR: 0: one; -5: by none; by as many as 5", plain(6));
        e.run("friends 0 2 true", "friends 2 4 true", "friends 4 1 true", "friends 1 3 true");
        int[] far = {0, 3, 1, 4, 2, Edges.NOT_ANY};
        for (int i = 0; i < 6; i++) {
            e.keeps("far 0 " + i, far[i]);
            e.keeps("far " + i + " 0", far[i]);
            e.keeps("far " + i + " " + i, 0);
        }
        e.run("friends 3 5 true");
        e.keeps("far 0 5", 5);
        e.keeps("far 5 0", 5);
        e.run("friends 0 3 true");
        e.keeps("far 0 5", 2);
        e.run("friends 0 5 true");
        e.keeps("far 0 5", 1);
        e.keepsEach(Edges.NONE, "far 6 0", "far 0 6", "far -1 0", "far 0 -1", "far 6 6", "far -1 -1", "far MIN 0", "far 0 MAX");
        e.begin("FAR: nobody, and the only one");
        e.keeps("far 0 0", Edges.NONE);
        e.run("person 0 0");
        e.keeps("far 0 0", 0);
        e.keepsEach(Edges.NONE, "far 0 1", "far 1 0", "far 1 1");
        e.begin("FAR: whoever they are", Edges.SIX);
        e.run("friends 3 4 true", "friends 5 4 true");
        e.keeps("far 3 5", 2);
        e.keeps("far 3 0", Edges.NOT_ANY);
    }

    private static void towns() {
        int[][] due = {{2, 0, 0, 0}, {4, 1, 0, 0}, {10, 0, 1, 0}, {26, 15, 0, 1}};
        for (String[] scene : new String[][] {{}, Edges.CROWDED, Edges.SIX}) {
            e.begin("TOWNS of n (2 .. 5) by k (0 .. 3), whoever is there", scene);
            for (int n = 2; n <= 5; n++) {
                for (int k = 0; k <= 3; k++) {
                    e.keeps("towns " + n + " " + k, due[n - 2][k]);
                }
                e.keepsEach(Edges.BAD, "towns " + n + " -1", "towns " + n + " 4");
            }
            for (int k = -1; k <= 4; k++) {
                e.keepsEach(Edges.BAD, "towns 1 " + k, "towns 6 " + k);
            }
            e.keepsEach(Edges.BAD, "towns 0 0", "towns -1 0", "towns MIN 0", "towns MAX 0", "towns 2 MIN", "towns 2 MAX");
        }
    }

    private static void next() {
        for (String[] scene : new String[][] {{}, Edges.CROWDED}) {
            e.begin("next: NONE: what; BAD: n", scene);
            e.keeps("next 0 0", 0);
            e.keepsEach(Edges.BAD, "next -1 0", "next 61 0", "next -1 1", "next 61 1", "next MIN 0", "next MAX 0");
            e.keepsEach(Edges.NONE, "next 0 -1", "next 60 2", "next 0 MIN", "next 0 MAX");
            e.begin("next: NONE ahead of BAD", scene);
            e.keepsEach(Edges.NONE, "next -1 -1", "next 61 2", "next -1 2", "next 61 -1");
        }
        e.begin("next: nobody is there");
        e.keepsEach(0, "next 0 0", "next 0 1", "next 60 0", "next 60 1");
        // The one PAIR is RIGHT in YEARS that are multiples of 11, if they are of 10, too: so in 110.
        e.begin("next: the last of YEARS 0 .. 60 more", "person 0 0", "person 0 0", "person 3 9", "friends 0 2 true", "friends 1 2 true",
            "'want 0 y=0;want 5 a=0&b=1&!y=0", "town");
        e.keeps("next 60 1", 0);
        e.repeat(49, "year");
        e.keeps("next 60 0", 0);
        e.keeps("next 60 1", 1);
        e.run("year");
        e.keeps("next 60 0", 60);
        e.keeps("next 60 1", 0);
        e.keeps("next 59 0", 0);
        e.keeps("next 59 1", 1);
        e.run("year");
        e.keeps("next 59 0", 59);
        e.keeps("next 58 0", 0);
        e.keeps("told 0", 51);
        e.begin("next: the first of several; now, if none is better", "person 0 0", "person 0 0", "'want 1 y<3|y>4", "town");
        e.keeps("next 0 1", 1);
        e.keeps("next 2 0", 0);
        e.keeps("next 3 0", 3);
        e.keeps("next 60 0", 3);
        e.keeps("next 3 1", 0);
        e.repeat(3, "year");
        e.keeps("next 60 0", 0);
        e.keeps("next 60 1", 0);
        e.begin("next: the fewest, if not the first that are fewer", plain(3));
        e.run("'want 1 y<2;want 1 y=2&a=0;want 1 y>3", "town");
        e.keeps("next 1 0", 0);
        e.keeps("next 2 0", 2);
        e.keeps("next 2 1", 2);
        e.keeps("next 60 0", 3);
        e.keeps("next 60 1", 0);
        e.begin("next: the part of a TOLD one's ROW", "person 0 0", "person 0 0", "person 6 0", "friends 0 2 true", "friends 1 2 true",
            "row 2 3 3", "'want 3 a=0&b=1", "town", "year", "year");
        e.keeps("next 60 0", 1);
        e.run("year", "year");
        e.keeps("next 60 0", 3);
        e.keeps("next 2 0", 0);
        // Now one is AMISS by 9; a YEAR on two are by 1.
        e.begin("next: the fewest PAIRS, by however much", plain(3));
        e.run("'want 9 y=0&b=1;want 1 y=1&a=0;want 1 y=2&a=1;want 9 y>2", "town");
        e.keeps("next 1 0", 0);
        e.keeps("next 1 1", 1);
        e.keeps("next 2 0", 0);
        e.keeps("next 2 1", 1);
        e.keeps("next 60 0", 0);
    }
}
