import java.util.Arrays;

/** Promises 29 to 31: JUDGED, THE IMAGE, undo. */
public final class ImageEdgesTest {
    private static final String[] PLAIN = {"person 0 0", "person 0 0", "person 0 0", "person 0 0", "person 0 0", "person 0 0"};
    private static final Edges e = new Edges("ImageEdgesTest");

    private ImageEdgesTest() {
    }

    public static void main(String[] args) {
        judgeRefused();
        judgeNone();
        judgeEnds();
        judgeOtherwise();
        undo();
        othersAfterUndo();
        newestImage();
        kept();
        rows();
        notKept();
        e.close();
    }

    private static void judgeRefused() {
        for (String[] scene : new String[][] {{}, Edges.CROWDED}) {
            e.begin("judge: NONE: tape", scene);
            e.keepsEach(Edges.NONE, "judge -1 0", "judge 6 0", "judge MIN 0", "judge MAX 0", "judge -1 -1", "judge 6 MAX");
        }
        for (int people : new int[] {0, 2}) {
            for (int sort = 0; sort <= 3; sort++) {
                e.begin("judge: CAST: it is no row of booleans", Arrays.copyOf(PLAIN, people));
                e.run("tape 5 " + sort + " 3", "tape 0 " + sort + " 0");
                e.keepsEach(Edges.CAST, "judge 5 0", "judge 5 2", "judge 5 3", "judge 5 -1", "judge 5 MAX", "judge 0 0");
            }
        }
    }

    private static void judgeNone() {
        for (int people : new int[] {0, 1}) {
            e.begin("JUDGED: -5: there is none to look at", Arrays.copyOf(PLAIN, people));
            for (int tape = 0; tape < 6; tape++) {
                e.keepsEach(Edges.NOT_ANY, "judge " + tape + " 0", "judge " + tape + " -1", "judge " + tape + " 60", "judge " + tape + " MAX");
            }
            e.run("tape 5 4 2", "tape 0 4 0");
            e.keepsEach(Edges.NOT_ANY, "judge 5 0", "judge 5 2", "judge 5 -1", "judge 5 MIN", "judge 0 0", "judge 0 MAX");
        }
    }

    private static void judgeEnds() {
        e.begin("JUDGED: 100: the TAPE holds nothing", Arrays.copyOf(PLAIN, 2));
        for (int tape = 0; tape < 6; tape++) {
            e.keepsEach(100, "judge " + tape + " 0", "judge " + tape + " -1", "judge " + tape + " 1", "judge " + tape + " MAX");
        }
        e.run("tape 3 2 9", "tape 3 -1 0");
        e.keeps("judge 3 0", 100);
        e.begin("JUDGED: 100: the place is below 0, or at the end, or beyond it", Arrays.copyOf(PLAIN, 6));
        e.run("tape 0 4 0", "tape 1 4 15", "tape 2 4 60", "item 2 0 1", "item 1 0 1", "item 1 14 1");
        e.keepsEach(100, "judge 0 0", "judge 0 1", "judge 0 -1", "judge 1 -1", "judge 1 15", "judge 1 16", "judge 1 MIN", "judge 1 MAX",
            "judge 2 -1", "judge 2 60", "judge 2 61", "judge 2 2147483646", "judge 2 -14", "judge 2 -15");
        e.begin("JUDGED: 100 and how many were looked at, if the row ends ahead of that", Arrays.copyOf(PLAIN, 6));
        e.run("tape 2 4 60");
        for (int length = 0; length <= 14; length++) {
            e.run("tape 1 4 " + length);
            e.keeps("judge 1 0", 100 + length);
            e.keeps("judge 2 " + (60 - length), 100 + length);
        }
        e.run("tape 1 4 15");
        e.keeps("judge 1 0", Edges.NOT_ANY);
        e.keeps("judge 1 1", 114);
        e.keeps("judge 1 14", 101);
        e.keeps("judge 2 45", Edges.NOT_ANY);
        e.keeps("judge 2 46", 114);
    }

    private static void judgeOtherwise() {
        e.begin("JUDGED: the first that is otherwise", Arrays.copyOf(PLAIN, 6));
        e.run("tape 1 4 17", "item 1 0 1", "item 1 16 1");
        e.keeps("judge 1 0", 0);
        e.keeps("judge 1 1", Edges.NOT_ANY);
        e.keeps("judge 1 2", 14);
        e.keeps("judge 1 3", 13);
        e.run("friends 4 5 true");
        e.keeps("judge 1 1", 14);
        e.keeps("judge 1 2", Edges.NOT_ANY);
        e.run("item 1 16 0");
        e.keeps("judge 1 2", 14);
        e.keeps("judge 1 3", 114);
        e.run("friends 1 2 true");
        e.keeps("judge 1 2", 2);
        e.run("item 1 4 256", "item 1 5 1");
        e.keeps("judge 1 2", 3);
        e.run("item 1 5 0");
        e.keeps("judge 1 2", 14);
        e.begin("JUDGED: otherwise ahead of the row's end", Arrays.copyOf(PLAIN, 3));
        e.run("tape 5 4 2", "item 5 1 1");
        e.keeps("judge 5 0", 1);
        e.keeps("judge 5 1", 0);
        e.run("friends 0 2 true");
        e.keeps("judge 5 0", 102);
        e.run("friends 0 1 true");
        e.keeps("judge 5 0", 0);
        e.keeps("judge 5 1", 101);
    }

    private static void undo() {
        e.begin("undo: STATE: there is none");
        e.keeps("undo", Edges.STATE);
        e.run(Edges.SIX);
        e.keeps("undo", Edges.STATE);
        for (int people = 0; people <= 6; people++) {
            e.begin("image, undo: how many PEOPLE", Arrays.copyOf(Edges.SIX, people));
            e.keeps("undo", Edges.STATE);
            e.is("image", people);
            e.keeps("undo", people);
            e.keeps("image", people);
            if (people < 6) {
                e.run("person 0 0", "year");
                e.is("count 0", people + 1);
                e.is("undo", people);
                e.is("count 0", people);
                e.is("of " + people + " 0", Edges.NONE);
                e.is("person 0 0", people);
            }
        }
        e.begin("undo: as THE IMAGE, as often as it is asked; the newest", "year", "image", "year", "undo");
        e.keeps("told 0", 1);
        e.run("year", "year", "undo");
        e.keeps("told 0", 1);
        e.run("year", "image", "year", "undo");
        e.keeps("told 0", 2);
        e.run("image", "undo");
        e.keeps("told 0", 2);
    }

    private static void othersAfterUndo() {
        e.begin("undo: one who came since is not there: all others are fewer", "person 0 0", "person 0 0", "person 4 2", "friends 0 2 true",
            "friends 1 2 true", "image", "person 0 0", "person 0 0");
        e.is("alls", 0);
        e.is("at 0 1", 0);
        e.run("undo");
        e.keeps("alls", 4);
        e.keeps("at 0 1", 1);
        e.keeps("amiss 0", 6);
        e.keeps("told 1", 3);
        e.keeps("goes 1", 1);
    }

    /** What was told by hand ahead of an image is told otherwise ahead of the next one. */
    private static void newestImage() {
        e.begin("undo: the WISHES and the BOOK of the newest image", Arrays.copyOf(PLAIN, 6));
        e.run("wish 0 true", "wish 1 true", "book 0 0", "book 1 0", "complain 3 1", "image", "wish -1 true", "book -1 0", "wish 5 true",
            "wish 14 false", "book 2 1", "book 3 0", "complain 3 2", "image", "wish -1 true", "book -1 0", "wish 9 false", "wish 9 false",
            "wish 9 false", "book 9 9", "book 9 9", "book 9 9", "complain 3 3", "undo");
        e.keeps("count 2", 2);
        e.keeps("count 3", 2);
        e.keeps("of 3 4", 2);
        e.keeps("kept 0", 1);
        e.keeps("looked", 0);
        e.run("friends 2 3 true");
        e.keeps("kept 0", 2);
        e.run("friends 4 5 true");
        e.keeps("kept 0", 1);
        e.run("friends 2 3 false", "friends 0 1 true", "friends 0 2 true");
        e.keeps("looked", Edges.NOT_ANY);
        e.run("friends 1 3 true");
        e.keeps("looked", 1);
        e.begin("undo: an image lasts", "person 0 0", "image");
        e.repeat(500, "year");
        e.is("undo", 1);
        e.is("told 0", 0);
    }

    private static void kept() {
        e.begin("THE IMAGE: PEOPLE with all that is theirs, who are FRIENDS, YEAR, COMPLAINTS, WISHES, the BOOK, which TOWN holds", Edges.CROWDED);
        e.run("image", "person 1 1", "friends 5 0 true", "friends 0 1 false", "friends 0 2 true", "year", "complain 0 1", "complain 4 1",
            "row 1 0 3", "row 1 1 3", "row 1 2 1", "row 1 3 3", "wish -1 true", "wish 1 true", "wish 2 true", "wish 3 true", "wish 4 true",
            "book -1 0", "book 3 3", "book 3 3", "book 3 3", "book 3 3", "'|a=0", "town", "'want 3 a=0;make 4 a<9;break 5 a<9", "town", "undo");
        asCrowded();
        e.run("friends 1 3 true", "complain 2 2", "row 1 0 1", "wish 0 true", "book 0 3", "year", "undo");
        asCrowded();
        e.begin("THE IMAGE: empty", "image");
        e.run(Edges.CROWDED);
        // The crowded scene takes an image of its own.
        e.is("undo", 3);
        e.keeps("told 0", 1);
        e.begin("THE IMAGE: empty: no WISHES, no BOOK, no TOWN", "person 0 0", "person 0 0", "image", "wish 0 true", "book 0 5",
            "'want 5 a=0;make 6 a=0", "town", "friends 0 1 true", "complain 0 1", "undo");
        e.keepsEach(0, "count 2", "count 3", "kept 0", "kept 1", "told 2", "of 0 4");
        e.keeps("looked", Edges.NOT_ANY);
        e.keeps("at 0 2", 1);
        e.keeps("at 0 3", 1);
        e.is("wish 0 true", 1);
        e.is("book 0 0", 1);
    }

    private static void asCrowded() {
        e.is("count 0", 5);
        int[][] people = {{0, 3, 10, 2}, {6, 4, 21, 5}, {1, 7, 18, 0}, {2, 2, 1, 4}, {3, 1, 6, 0}};
        for (int i = 0; i < 5; i++) {
            e.is("of " + i + " 0", people[i][0]);
            e.is("of " + i + " 1", people[i][1]);
            e.is("of " + i + " 2", people[i][2]);
            e.is("of " + i + " 4", people[i][3]);
        }
        int[] row = {0, 2, 3, 1};
        for (int part = 0; part < 4; part++) {
            e.is("row 1 " + part + " " + row[part], row[part]);
        }
        e.is("told 0", 3);
        e.is("count 2", 3);
        e.is("count 3", 3);
        // 0 and 1 are FRIENDS and wished so; 2 and 3 are not; but 3 and 4 are wished to be.
        e.is("kept 0", 2);
        e.is("at 0 2", 1);
        e.is("at 2 2", 3);
        e.is("at 2 3", 6);
        e.is("at 1 3", 5);
        e.is("at 9 3", 0);
        e.is("at 9 2", 2);
    }

    /** The BOOK's rows, each of which is the first that is otherwise in its turn. */
    private static void rows() {
        e.begin("THE IMAGE: the BOOK's rows, all 12, and the WISHES, all 6", Arrays.copyOf(PLAIN, 6));
        for (int pair = 1; pair <= 12; pair++) {
            e.run("book " + pair + " " + (pair == 2 || pair == 4 || pair == 11 ? 1 : 0));
        }
        for (int pair = 9; pair < 15; pair++) {
            e.run("wish " + pair + " " + (pair % 2 == 0));
        }
        e.run("image", "book -1 0");
        e.repeat(12, "book 14 99");
        e.run("wish -1 true");
        e.repeat(6, "wish 0 true");
        e.keeps("looked", 0);
        e.run("undo");
        e.is("count 3", 12);
        e.is("count 2", 6);
        e.is("kept 0", 3);
        e.is("kept 1", 3);
        // The rows 1, 3 and 10 tell of one in common: of 1 and 2, of 1 and 3, of 1 and 5.
        e.is("looked", 1);
        e.run("friends 0 1 true", "friends 0 2 true");
        e.is("looked", 3);
        e.run("friends 1 2 true", "friends 2 3 true", "friends 0 2 false");
        e.is("looked", 0);
        for (int pair = 9; pair < 15; pair++) {
            e.is("at " + pair + " 0", 0);
        }
        e.run("friends 3 4 true");
        e.is("kept 0", 2);
        e.run("friends 4 5 true");
        e.is("kept 0", 3);
        e.run("friends 3 5 true");
        e.is("kept 0", 2);
        e.run("book -1 0", "undo");
        e.is("looked", 1);
        e.run("book -1 0", "book 14 1", "undo", "friends 0 1 true", "friends 0 2 true", "friends 0 3 true");
        e.is("looked", 4);
    }

    private static void notKept() {
        e.begin("THE IMAGE: neither THE TEXT, the TAPES, THE TRACE, nor how many TOWNS", "person 0 2", "tape 0 0 3", "item 0 0 5", "'wan",
            "act 0 0 1", "image", "'t 1 a=0", "tape 0 1 4", "item 0 3 6", "tape 1 2 2", "act 0 2 4", "undo");
        e.keeps("count 4", 10);
        e.keeps("read 0 0", 0);
        e.keeps("read 0 3", 6);
        e.keeps("read 1 1", 0);
        e.keeps("count 5", 3);
        e.keeps("trace 0", 12);
        e.is("town", 0);
        e.is("undo", 1);
        e.is("count 1", 1);
        e.is("'want 2 a=0", 10);
        e.is("town", 1);
        e.begin("which TOWN holds: an older one again; still 6 at most", "person 0 0", "person 0 0");
        for (int i = 0; i < 6; i++) {
            e.run("'want 1" + i + " a=0", "town");
            if (i == 2) {
                e.run("image");
            }
        }
        e.keeps("at 0 2", 15);
        e.is("undo", 2);
        e.keeps("at 0 2", 12);
        e.keeps("count 1", 6);
        e.run("'want 9 a=0");
        e.keeps("town", Edges.FULL);
        e.begin("which TOWN holds: none; a FAULT leaves it so", "person 0 0", "person 0 0", "image", "'want 9 a=0", "town", "undo",
            "'want 8 a=", "town");
        e.keeps("at 0 2", 1);
    }
}
