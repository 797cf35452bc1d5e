/** Promises 36 to 39: TAPES, their items, what is shifted. */
public final class TapeEdgesTest {
    private static final int ITEMS = 60;
    private static final Edges e = new Edges("TapeEdgesTest");

    private TapeEdgesTest() {
    }

    public static void main(String[] args) {
        tape();
        item();
        wraps();
        read();
        shift();
        shiftRefused();
        e.close();
    }

    private static void tape() {
        for (int tape = 0; tape <= 5; tape++) {
            for (int sort = 0; sort <= 4; sort++) {
                for (int n : new int[] {0, 1, 59, 60}) {
                    e.begin("tape: a row of n (0 .. 60) of a sort, all 0");
                    e.is("tape " + tape + " " + sort + " " + n, 1);
                    for (int i = 0; i < n; i++) {
                        e.is("read " + tape + " " + i, 0);
                        e.is("item " + tape + " " + i + " 1", 1);
                    }
                    e.is("read " + tape + " " + n, Edges.NO);
                    e.is("tape " + tape + " " + sort + " " + n, 1);
                    for (int i = 0; i < n; i++) {
                        e.is("read " + tape + " " + i, 0);
                    }
                }
            }
        }
        e.begin("tape: nothing (sort -1: n does not matter)");
        for (String n : new String[] {"0", "-1", "61", "60", "MIN", "MAX"}) {
            e.is("tape 2 3 2", 1);
            e.is("item 2 0 5", 1);
            e.is("tape 2 -1 " + n, 1);
            e.keeps("item 2 0 5", Edges.NOTHING);
            e.keeps("read 2 0", Edges.NO);
            e.keeps("tape 2 -1 " + n, 1);
        }
        for (String[] scene : new String[][] {{}, Edges.CROWDED}) {
            e.begin("tape: NONE: tape; BAD: sort, n above 60; SIZE", scene);
            e.keepsEach(Edges.NONE, "tape -1 0 1", "tape 6 0 1", "tape MIN 0 1", "tape MAX 0 1", "tape -1 -1 0", "tape 6 -1 0");
            e.keepsEach(Edges.BAD, "tape 0 -2 1", "tape 0 5 1", "tape 3 MIN 1", "tape 3 MAX 1", "tape 0 0 61", "tape 4 4 61", "tape 5 0 MAX",
                "tape 1 1 61", "tape 2 2 61", "tape 3 3 61");
            e.keepsEach(Edges.SIZE, "tape 0 0 -1", "tape 1 1 -1", "tape 2 2 -1", "tape 3 3 -1", "tape 4 4 -1", "tape 5 0 MIN");
            e.begin("tape: the first that is named", scene);
            e.keepsEach(Edges.NONE, "tape 6 5 1", "tape -1 -2 61", "tape 6 0 -1", "tape 6 0 61");
            e.keepsEach(Edges.BAD, "tape 0 5 -1", "tape 0 -2 -1", "tape 0 5 61", "tape 0 -2 61");
        }
    }

    private static void item() {
        for (String[] scene : new String[][] {{}, Edges.CROWDED}) {
            e.begin("item: NONE; NOTHING", scene);
            e.keepsEach(Edges.NONE, "item -1 0 1", "item 6 0 1", "item MIN 0 1", "item MAX 0 1", "item 6 -1 1");
            e.keepsEach(Edges.NOTHING, "item 5 0 1", "item 5 -1 1", "item 5 60 1", "item 5 MAX 1");
        }
        for (int n : new int[] {1, 2, 59, ITEMS}) {
            e.begin("item: PLACE: of " + n, "tape 0 3 " + n);
            e.is("item 0 0 7", 1);
            e.is("item 0 " + (n - 1) + " 8", 1);
            e.is("read 0 " + (n - 1), 8);
            e.keepsEach(Edges.PLACE, "item 0 -1 1", "item 0 " + n + " 1", "item 0 MIN 1", "item 0 MAX 1");
        }
        e.begin("item: PLACE: of none", "tape 0 3 0");
        e.keepsEach(Edges.PLACE, "item 0 0 1", "item 0 -1 1", "item 0 1 1");
        e.begin("item: PLACE: a row that was longer", "tape 0 3 60", "item 0 59 1", "tape 0 3 2");
        e.keepsEach(Edges.PLACE, "item 0 2 1", "item 0 59 1");
        e.keepsEach(Edges.NO, "read 0 2", "read 0 59");
        e.begin("item: refused among all that there is", Edges.CROWDED);
        e.keepsEach(Edges.PLACE, "item 0 4 1", "item 0 -1 1", "item 1 3 1", "item 2 2 1", "item 3 5 1", "item 4 6 1", "item 4 -1 1");
    }

    private static void itemIs(int sort, long v, long due) {
        String of = sort + " of " + v;
        e.begin("item: its lowest bits, as many as an item has; booleans: whether v is not 0; sort " + of, "tape 5 " + sort + " 3");
        e.is("item 5 1 " + v, 1);
        e.is("read 5 1", due);
        e.is("read 5 0", 0);
        e.is("read 5 2", 0);
        e.is("item 5 1 0", 1);
        e.is("read 5 1", 0);
    }

    private static void wraps() {
        long[] edges = {0, 1, 2, 126, 127, 128, 129, 255, 256, 257, 32767, 32768, 65535, 65536, 65537, Integer.MAX_VALUE, 1L << 31, (1L << 32) - 1,
            1L << 32, (1L << 32) + 1, Long.MAX_VALUE, Long.MAX_VALUE - 1, Long.MIN_VALUE + 1, 0x123456789ABCDEF0L, 0xFEDCBA9876543210L};
        for (long edge : edges) {
            for (long v : new long[] {edge, -edge}) {
                for (int sort = 0; sort <= 2; sort++) {
                    long span = 1L << (8 << sort);
                    long low = Math.floorMod(v, span);
                    itemIs(sort, v, low < span / 2 ? low : low - span);
                }
                itemIs(3, v, v);
                itemIs(4, v, v == 0 ? 0 : 1);
            }
        }
        int[] bits = {7, 15, 31, 63};
        for (int sort = 0; sort <= 3; sort++) {
            long least = -1L << bits[sort];
            itemIs(sort, least, least);
            itemIs(sort, ~least, ~least);
            itemIs(sort, least - 1, ~least);
            itemIs(sort, ~least + 1, least);
        }
    }

    private static void read() {
        for (String[] scene : new String[][] {{}, Edges.CROWDED}) {
            e.begin("read: NO: no such TAPE, nothing there", scene);
            e.keepsEach(Edges.NO, "read -1 0", "read 6 0", "read MIN 0", "read MAX 0", "read 5 0", "read 5 -1", "read 6 -1");
        }
        for (int sort = 0; sort <= 4; sort++) {
            e.begin("read: NO: no such place", "tape 0 " + sort + " 60", "tape 1 " + sort + " 1", "tape 2 " + sort + " 0",
                "item 0 59 1", "item 1 0 1");
            e.keeps("read 0 59", 1);
            e.keeps("read 0 0", 0);
            e.keeps("read 1 0", 1);
            e.keepsEach(Edges.NO, "read 0 60", "read 0 -1", "read 1 1", "read 1 -1", "read 2 0", "read 2 -1", "read 0 MIN", "read 0 MAX");
        }
    }

    private static String[] counted() {
        return new String[] {"tape 0 2 5", "item 0 0 1", "item 0 1 2", "item 0 2 3", "item 0 3 4", "item 0 4 5", "tape 1 2 3", "item 1 0 7",
            "item 1 1 8", "item 1 2 9", "tape 2 3 5", "tape 3 2 0", "tape 5 2 60", "item 5 59 6"};
    }

    private static void rowIs(int tape, long... row) {
        for (int i = 0; i < row.length; i++) {
            e.is("read " + tape + " " + i, row[i]);
        }
        e.is("read " + tape + " " + row.length, Edges.NO);
    }

    private static void shifted(String shift, int n, long[] first, long... second) {
        e.begin("shift: n items come, as they all were before: " + shift, counted());
        e.is(shift, n);
        rowIs(0, first);
        rowIs(1, second);
    }

    private static void shift() {
        long[] as = {1, 2, 3, 4, 5};
        shifted("shift 0 0 0 1 4", 4, new long[] {1, 1, 2, 3, 4}, 7, 8, 9);
        shifted("shift 0 1 0 0 4", 4, new long[] {2, 3, 4, 5, 5}, 7, 8, 9);
        shifted("shift 0 0 0 3 2", 2, new long[] {1, 2, 3, 1, 2}, 7, 8, 9);
        shifted("shift 0 3 0 0 2", 2, new long[] {4, 5, 3, 4, 5}, 7, 8, 9);
        shifted("shift 0 0 0 0 5", 5, as, 7, 8, 9);
        shifted("shift 0 0 1 0 3", 3, as, 1, 2, 3);
        shifted("shift 0 2 1 0 3", 3, as, 3, 4, 5);
        shifted("shift 0 4 1 2 1", 1, as, 7, 8, 5);
        shifted("shift 1 0 0 2 3", 3, new long[] {1, 2, 7, 8, 9}, 7, 8, 9);
        shifted("shift 1 2 0 4 1", 1, new long[] {1, 2, 3, 4, 9}, 7, 8, 9);
        shifted("shift 5 59 0 0 1", 1, new long[] {6, 2, 3, 4, 5}, 7, 8, 9);
        shifted("shift 5 55 0 0 5", 5, new long[] {0, 0, 0, 0, 6}, 7, 8, 9);
        for (String none : new String[] {"shift 0 0 1 0 0", "shift 0 5 1 3 0", "shift 0 5 0 5 0", "shift 0 0 3 0 0",
            "shift 3 0 3 0 0", "shift 3 0 5 60 0"}) {
            shifted(none, 0, as, 7, 8, 9);
        }
        for (int sort = 0; sort <= 4; sort++) {
            e.begin("shift: of like sorts", "tape 0 " + sort + " 60", "tape 5 " + sort + " 60", "item 0 0 1", "item 0 59 1");
            e.is("shift 0 0 5 0 60", 60);
            e.keeps("read 5 0", 1);
            e.keeps("read 5 59", 1);
            e.is("shift 5 0 5 1 59", 59);
            e.keeps("read 5 1", 1);
            e.keeps("read 5 59", 0);
        }
    }

    private static void shiftRefused() {
        e.begin("shift: NONE: tapes", counted());
        e.keepsEach(Edges.NONE, "shift -1 0 0 0 1", "shift 6 0 0 0 1", "shift 0 0 -1 0 1", "shift 0 0 6 0 1", "shift MIN 0 0 0 1",
            "shift 0 0 MAX 0 1", "shift 6 0 6 0 0", "shift -1 0 4 0 1", "shift 4 0 6 0 1", "shift 2 0 -1 0 1", "shift 6 -1 0 0 1");
        e.keepsEach(Edges.NOTHING, "shift 4 0 0 0 1", "shift 0 0 4 0 1", "shift 4 0 4 0 0", "shift 4 0 2 0 0", "shift 2 0 4 0 1", "shift 4 -1 0 0 1",
            "shift 0 0 4 0 -1");
        e.keepsEach(Edges.CAST, "shift 0 0 2 0 1", "shift 2 0 0 0 1", "shift 0 0 2 0 0", "shift 0 -1 2 0 1", "shift 0 0 2 0 -1", "shift 2 9 0 9 9");
        e.begin("shift: PLACE: n, i or j is below 0", counted());
        e.keepsEach(Edges.PLACE, "shift 0 0 1 0 -1", "shift 0 -1 1 0 1", "shift 0 0 1 -1 1", "shift 0 1 1 1 -1", "shift 0 -1 0 0 0",
            "shift 0 0 0 -1 0", "shift 0 MIN 1 0 1", "shift 0 0 1 MIN 1", "shift 0 0 1 0 MIN", "shift 0 -1 1 0 MAX", "shift 0 5 1 3 -1",
            "shift 0 5 1 3 -2");
        e.begin("shift: PLACE: beyond either's end", counted());
        e.keepsEach(Edges.PLACE, "shift 0 0 0 0 6", "shift 0 1 0 0 5", "shift 0 0 0 1 5", "shift 0 0 1 0 4", "shift 1 0 0 0 4", "shift 0 3 1 0 3",
            "shift 0 0 1 1 3", "shift 1 0 0 3 3", "shift 0 5 1 0 1", "shift 0 0 1 3 1", "shift 0 6 1 0 0", "shift 0 0 1 4 0", "shift 0 0 3 0 1",
            "shift 3 0 0 0 1", "shift 3 0 3 1 0", "shift 5 60 0 0 1", "shift 5 0 0 0 60", "shift 5 1 5 0 60", "shift 5 0 5 0 61",
            "shift 0 MAX 1 0 1", "shift 0 0 1 MAX 1", "shift 0 0 1 0 MAX", "shift 0 MAX 1 MAX MAX", "shift 0 1 0 1 MAX", "shift 0 MAX 0 0 0");
        for (int sort = 0; sort <= 4; sort++) {
            for (int other = 0; other <= 4; other++) {
                e.begin("shift: CAST: of unlike sorts", "tape 0 " + sort + " 2", "tape 1 " + other + " 2", "item 0 1 1");
                e.keeps("shift 0 0 1 0 0", sort == other ? 0 : Edges.CAST);
                e.is("shift 0 1 1 0 1", sort == other ? 1 : Edges.CAST);
                e.is("read 1 0", sort == other ? 1 : 0);
            }
        }
        e.begin("shift: refused among all that there is", Edges.CROWDED);
        e.keepsEach(Edges.PLACE, "shift 0 0 0 1 4", "shift 0 1 0 0 4", "shift 4 0 4 0 7", "shift 3 5 3 0 1", "shift 2 0 2 -1 1", "shift 1 0 1 0 -1");
        e.keepsEach(Edges.CAST, "shift 0 0 1 0 1", "shift 3 0 4 0 1");
        e.keepsEach(Edges.NOTHING, "shift 0 0 5 0 1", "shift 5 0 0 0 1");
        e.keepsEach(Edges.NONE, "shift 0 0 6 0 1", "shift -1 0 0 0 1");
    }
}
