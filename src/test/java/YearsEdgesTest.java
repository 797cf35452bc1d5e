/** What is asked is asked of the YEAR as it is, of who is there, of the ROWS and the TOWN: promises 14 to 17, 19, 22, 23. */
public final class YearsEdgesTest {
    /**
     * In YEAR 15 the TOLD one counts 2, the MOODY one 0, and y is 5: each two have in common what is wanted. It would not be so
     * in YEAR 0, nor in 15 modulo 4 or 10, nor without the ROW.
     */
    private static final String[] RIGHT = {"person 0 0", "person 0 0", "person 6 0", "person 3 3", "friends 0 2 true", "friends 1 2 true",
        "friends 0 3 true", "friends 1 3 true", "row 2 3 2", "'want 2 y=5&b=1;want 2 y=5&a=2&b=3", "town"};
    private static final Edges e = new Edges("YearsEdgesTest");

    private YearsEdgesTest() {
    }

    public static void main(String[] args) {
        right("AMISS in a YEAR, by a ROW and a mood");
        e.keeps("at 0 1", 2);
        e.keeps("at 5 1", 2);
        e.keeps("amiss 1", 0);
        asked();
        made();
        e.close();
    }

    private static void right(String sentence, String... calls) {
        e.begin(sentence, RIGHT);
        e.repeat(15, "year");
        e.run(calls);
    }

    private static void asked() {
        right("FIRST CHANGE in a YEAR, by a ROW and a mood", "friends 0 2 false");
        e.keeps("amiss 0", 33);
        e.keeps("first 0", 1);
        e.keeps("first 1", 0);
        right("CHEAPEST in a YEAR, by a ROW and a mood", "friends 0 2 false");
        e.keeps("cheapest 0", 1);
        e.keeps("cheapest 1", 1);
        e.keeps("cheapest 2", 1);
        right("GOES in a YEAR, by a ROW and a mood", "person 0 0", "friends 4 0 true", "friends 4 1 true");
        e.keeps("amiss 1", 3);
        e.keeps("goes 0", 4);
        e.keeps("goes 1", 0);
        right("befriends in a YEAR, by a ROW and a mood");
        e.keeps("befriends 0 0 0", 0);
        e.keeps("befriends 0 0 1", 0);
        right("NEXT in a YEAR, by a ROW and a mood");
        e.keeps("next 4 0", 0);
        e.keeps("next 4 1", 0);
        right("ODDS in a YEAR, by a ROW and a mood", "friends 2 3 true");
        e.keeps("amiss 1", 2);
        e.keeps("odds 0", 1);
        e.keeps("odds 1", 5);
    }

    private static void made() {
        right("WHO MADE IT in a YEAR, by a ROW and a mood", "complain 0 1", "complain 1 1", "complain 2 1", "complain 3 1");
        e.keeps("made", 1);
        e.run("friends 0 2 false");
        e.keeps("made", 100);
        e.run("complain 0 0", "complain 1 0", "complain 2 0", "complain 3 0");
        e.keeps("made", 1);
    }
}
