/** Promises 23 to 28: ODDS, MEAN, WISHES, what is KEPT, the BOOK, LOOKED at. */
public final class BookEdgesTest {
    private static final String[] PLAIN = {"person 0 0", "person 0 0", "person 0 0", "person 0 0", "person 0 0", "person 0 0"};
    private static final Edges e = new Edges("BookEdgesTest");

    private BookEdgesTest() {
    }

    public static void main(String[] args) {
        odds();
        mean();
        wish();
        kept();
        book();
        looked();
        e.close();
    }

    private static void plain(String sentence, int people) {
        e.begin(sentence, java.util.Arrays.copyOf(PLAIN, people));
    }

    private static void oddsAre(long above, long below) {
        e.keeps("odds 0", above);
        e.keeps("odds 1", below);
    }

    private static void meanIs(long above, long below) {
        e.keeps("mean 0", above);
        e.keeps("mean 1", below);
    }

    private static void odds() {
        for (String[] scene : new String[][] {{}, Edges.CROWDED}) {
            e.begin("odds: part 0 above, 1 below the line", scene);
            e.keepsEach(Edges.NO, "odds -1", "odds 2", "odds MIN", "odds MAX");
        }
        plain("ODDS: NO: there is none", 0);
        for (int people = 0; people <= 6; people++) {
            oddsAre(Edges.NO, Edges.NO);
            if (people < 6) {
                e.run("person 0 0");
            }
        }
        plain("ODDS: in lowest terms", 6);
        e.run("'want 0 a<9", "town", "friends 0 1 true");
        oddsAre(1, 1);
        e.run("friends 2 3 true", "friends 4 5 true");
        oddsAre(1, 1);
        e.run("friends 1 2 true");
        // 0, 1, 2, 3 in a row: only in the midst it is broken well, and 4 and 5 do no harm.
        oddsAre(1, 4);
        e.run("friends 1 2 false", "friends 0 2 true", "friends 2 3 false");
        oddsAre(2, 3);
        e.run("friends 3 4 true");
        oddsAre(0, 1);
        e.run("friends 0 2 false", "friends 4 5 false");
        oddsAre(1, 1);
        plain("ODDS: in lowest terms", 5);
        e.run("'want 0 a<9", "town", "friends 0 1 true", "friends 0 2 true", "friends 3 4 true");
        oddsAre(2, 3);
        plain("ODDS: 2 of 4", 6);
        e.run("'want 0 a<3", "town", "friends 0 1 true", "friends 0 2 true", "friends 5 3 true", "friends 5 4 true", "friends 5 4 false");
        oddsAre(2, 3);
        // 3 and 4 want one in common, and to be FRIENDS with 5: without 3 and 5, or 4 and 5, that is AMISS.
        e.run("'want 0 a<3;want 1 a=3&b=4", "town", "friends 5 4 true");
        oddsAre(1, 2);
        plain("ODDS: all 15, each alike likely", 6);
        for (int pair = 0, greater = 1; greater < 6; greater++) {
            for (int lesser = 0; lesser < greater; lesser++, pair++) {
                e.run("friends " + lesser + " " + greater + " true");
            }
        }
        e.run("'want 4 f=0;want 4 f=1&d=5&e=5;want 3 f=1&d<5;want 3 f=1&e<5", "town");
        oddsAre(1, 1);
        e.run("'want 4 f=0&a=0;want 4 f=1&d=5&e=5;want 3 f=1&d<5;want 3 f=1&e<5", "town");
        oddsAre(1, 3);
        e.run("'want 4 f=0&a=4;want 4 f=1&d=5&e=5;want 3 f=1&d<5;want 3 f=1&e<5", "town");
        oddsAre(1, 15);
    }

    private static void mean() {
        for (String[] scene : new String[][] {{}, {"person 0 0"}, Edges.CROWDED}) {
            e.begin("mean: part 0 above, 1 below the line", scene);
            e.keepsEach(Edges.NO, "mean -1", "mean 2", "mean MIN", "mean MAX");
        }
        plain("MEAN: NO: there is none", 0);
        meanIs(Edges.NO, Edges.NO);
        e.run("person 0 0");
        meanIs(Edges.NO, Edges.NO);
        e.run("person 0 0");
        meanIs(0, 1);
        e.run("friends 0 1 true", "person 0 0", "friends 0 2 true");
        meanIs(1, 3);
        e.run("friends 1 2 true");
        meanIs(1, 1);
        e.run("person 0 0");
        meanIs(1, 2);
        e.run("friends 0 3 true");
        meanIs(5, 6);
        e.run("friends 1 3 true", "friends 2 3 true");
        meanIs(2, 1);
        e.begin("MEAN: what all COUNT, and the most there is", "person 0 0", "person 0 0", "person 1 1", "friends 0 2 true", "friends 1 2 true");
        meanIs(2, 3);
        e.run("friends 0 1 true");
        meanIs(4, 3);
        mostInCommon("MEAN: the most there is");
        meanIs(12, 1);
        e.run("friends 0 1 false");
        // The two have 12 in common still, 8 PAIRS with one of them 9, the 6 others 12.
        meanIs(52, 5);
        e.begin("MEAN: 15 PAIRS", Edges.SIX);
        meanIs(0, 1);
        e.run("friends 0 1 true", "friends 0 2 true");
        meanIs(1, 15);
        e.run("friends 0 3 true");
        meanIs(1, 5);
        e.run("friends 0 4 true");
        meanIs(2, 5);
        e.run("friends 0 5 true");
        meanIs(2, 3);
    }

    /** Six who count 3 each, and all are FRIENDS. */
    private static void mostInCommon(String sentence) {
        e.begin(sentence);
        for (int one = 0; one < 6; one++) {
            e.run("person 6 0", "row " + one + " 0 3");
            for (int other = 0; other < one; other++) {
                e.run("friends " + other + " " + one + " true");
            }
        }
    }

    private static void wish() {
        plain("wish: none, if there are no PAIRS", 0);
        e.keepsEach(Edges.NONE, "wish 0 true", "wish 0 false", "wish -2 true");
        e.keepsEach(0, "wish -1 true", "wish -1 false");
        e.run("person 0 0");
        e.keeps("wish 0 true", Edges.NONE);
        plain("wish: a PAIR that there is; 6 at most", 6);
        e.keepsEach(Edges.NONE, "wish 15 true", "wish -2 true", "wish MIN false", "wish MAX false");
        e.is("wish 0 true", 1);
        e.is("wish 14 false", 2);
        e.is("wish 14 false", 3);
        e.is("wish 14 true", 4);
        e.is("wish 13 true", 5);
        e.keepsEach(Edges.NONE, "wish 15 true", "wish -2 true", "wish MIN false", "wish MAX false");
        e.is("wish 7 false", 6);
        e.keeps("count 2", 6);
        e.keepsEach(Edges.FULL, "wish 0 true", "wish 14 false", "wish 7 false");
        e.keepsEach(Edges.NONE, "wish 15 true", "wish -2 false");
        e.is("wish -1 true", 0);
        e.keeps("count 2", 0);
        e.keepsEach(0, "kept 0", "kept 1", "wish -1 false");
        for (int i = 1; i <= 6; i++) {
            e.is("wish 3 false", i);
        }
        e.keeps("wish 3 false", Edges.FULL);
        e.is("wish -1 false", 0);
        e.is("wish 3 true", 1);
        plain("wish: as many PAIRS as there are", 2);
        e.is("wish 0 true", 1);
        e.keeps("wish 1 true", Edges.NONE);
        e.run("person 0 0");
        e.is("wish 2 true", 2);
        e.keeps("wish 3 true", Edges.NONE);
    }

    private static void kept() {
        for (String[] scene : new String[][] {{}, Edges.CROWDED}) {
            e.begin("kept: NONE", scene);
            e.keepsEach(Edges.NONE, "kept -1", "kept 2", "kept MIN", "kept MAX");
        }
        plain("KEPT: no WISHES", 6);
        e.keepsEach(0, "kept 0", "kept 1");
        plain("KEPT: how many are so; the PRICES of all others, a PAIR as often as it is told", 3);
        e.run("'make 20 a=0;make 3 a=1;break 7 a=0;break 4 a=1", "town", "friends 0 1 true", "wish 1 true");
        e.keeps("kept 0", 0);
        e.keeps("kept 1", 20);
        e.run("wish 1 true");
        e.keeps("kept 1", 40);
        e.run("wish 0 true", "wish 2 false");
        e.keeps("kept 0", 2);
        e.keeps("kept 1", 40);
        e.run("wish 0 false", "wish 2 true");
        e.keeps("kept 0", 2);
        e.keeps("kept 1", 40 + 7 + 3);
        e.run("friends 0 2 true");
        e.keeps("kept 0", 4);
        e.keeps("kept 1", 7 + 3);
        e.run("friends 1 2 true");
        e.keeps("kept 0", 4);
        e.keeps("kept 1", 7 + 4);
        plain("KEPT: all 6, none of 6", 6);
        for (int i = 9; i < 15; i++) {
            e.run("wish " + i + " false");
        }
        e.keeps("kept 0", 6);
        e.keeps("kept 1", 0);
        e.run("wish -1 false");
        for (int i = 9; i < 15; i++) {
            e.run("wish " + i + " true");
        }
        e.keeps("kept 0", 0);
        e.keeps("kept 1", 6);
        e.run("'" + Edges.most("make"), "town");
        e.keeps("kept 1", 6 * 792);
    }

    private static void book() {
        plain("book: none, if there are no PAIRS", 0);
        e.keepsEach(Edges.NONE, "book 0 0", "book -2 0", "book 0 100");
        e.keepsEach(0, "book -1 0", "book -1 100", "book -1 -1", "book -1 MIN", "book -1 MAX");
        plain("book: a PAIR that there is; n 0 .. 99; 12 at most", 6);
        for (int rows = 1; rows <= 12; rows++) {
            e.keepsEach(Edges.NONE, "book 15 0", "book -2 0", "book MIN 0", "book MAX 0", "book 15 100", "book -2 -1");
            e.keepsEach(Edges.BAD, "book 0 -1", "book 14 100", "book 0 MIN", "book 0 MAX");
            e.is("book " + (rows == 12 ? 14 : rows - 1) + " " + (rows % 2 == 0 ? 99 : 0), rows);
            e.keeps("count 3", rows);
        }
        e.keepsEach(Edges.FULL, "book 0 0", "book 14 99");
        e.keepsEach(Edges.NONE, "book 15 0", "book -2 100");
        e.keepsEach(Edges.BAD, "book 0 100", "book 0 -1");
        e.is("book -1 100", 0);
        e.keeps("count 3", 0);
        e.keeps("looked", Edges.NOT_ANY);
        for (int rows = 1; rows <= 12; rows++) {
            e.is("book 0 0", rows);
        }
        e.keeps("book 0 0", Edges.FULL);
        e.is("book -1 MIN", 0);
        e.is("book 0 1", 1);
        e.keeps("looked", 0);
        plain("book: as many PAIRS as there are", 2);
        e.is("book 0 5", 1);
        e.keeps("book 1 5", Edges.NONE);
        e.run("person 0 0");
        e.is("book 2 5", 2);
        e.keeps("book 3 5", Edges.NONE);
    }

    private static void looked() {
        plain("LOOKED at: -5: none", 0);
        e.keeps("looked", Edges.NOT_ANY);
        plain("LOOKED at: the first row that is otherwise", 6);
        e.keeps("looked", Edges.NOT_ANY);
        for (int row = 0; row < 12; row++) {
            e.run("book " + (14 - row) + " 0");
            e.keeps("looked", Edges.NOT_ANY);
        }
        e.run("friends 0 1 true", "friends 0 2 true");
        // The PAIR 2, of 1 and 2, has one in common: the row 12 would tell of it.
        e.keeps("looked", Edges.NOT_ANY);
        e.run("friends 0 2 false", "friends 0 3 true");
        e.keeps("looked", 10);
        e.run("friends 0 3 false", "friends 1 2 true", "friends 1 3 true");
        e.keeps("looked", 9);
        e.run("friends 4 1 true", "friends 5 1 true");
        e.keeps("looked", 0);
        e.begin("LOOKED at: the first row, the last of 12; more and fewer", Edges.SIX);
        e.run("friends 0 1 true", "friends 0 2 true", "book 2 2");
        e.keeps("looked", 0);
        e.run("book -1 0", "book 2 0");
        e.keeps("looked", 0);
        e.run("book -1 0", "book 2 1");
        e.keeps("looked", Edges.NOT_ANY);
        e.repeat(10, "book 0 0");
        e.keeps("looked", Edges.NOT_ANY);
        e.run("book 2 2");
        e.keeps("looked", 11);
        mostInCommon("LOOKED at: the most in common that there is");
        e.run("book 0 12", "book 14 12");
        e.keeps("looked", Edges.NOT_ANY);
        e.run("book 14 13", "book 14 99");
        e.keeps("looked", 2);
        e.begin("LOOKED at: COMMON as it is now", "person 0 0", "person 0 0", "person 3 0", "friends 0 2 true", "friends 1 2 true", "book 0 1",
            "book 1 0", "book 0 0");
        e.keeps("looked", 0);
        e.run("year");
        e.keeps("looked", 2);
    }
}
