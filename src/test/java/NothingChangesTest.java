/** What is asked changes nothing; and what does change would be seen, so that the tests of edges can rely on it. */
public final class NothingChangesTest {
    private static final String[] ASKED = {"of 1 0", "of 1 1", "of 1 2", "of 1 3", "of 1 4", "pair 0 1", "pair 4 2", "at 0 0", "at 3 1", "at 9 2",
        "at 9 3", "at 9 4", "at 9 5", "told 0", "told 1", "told 2", "amiss 0", "amiss 1", "amiss 2", "alls", "first 0", "first 1", "cheapest 0",
        "cheapest 1", "cheapest 2", "cheapest 3", "goes 0", "goes 1", "befriends 0 0 0", "befriends 6 9 1", "befriends 4 3 0", "made", "far 0 4",
        "far 3 2", "towns 2 0", "towns 5 3", "towns 4 2", "next 0 0", "next 60 0", "next 60 1", "odds 0", "odds 1", "mean 0", "mean 1", "kept 0",
        "kept 1", "looked", "judge 4 0", "judge 4 1", "judge 5 0", "judge 0 0", "trace 0", "trace 11", "trace 12", "taken 1 3", "taken 1 6",
        "taken 0 6", "count 0", "count 1", "count 2", "count 3", "count 4", "count 5", "read 0 1", "read 3 4", "read 5 0", "shift 0 0 0 0 4",
        "shift 3 5 3 0 0", "friends 0 1 true", "friends 2 3 false", "row 1 2 3", "complain 1 5", "item 0 1 77", "item 4 0 8", "act 1 2 5",
        "tape 5 -1 3"};
    private static final String[] CHANGING = {"person 0 3", "friends 0 1 false", "friends 2 3 true", "row 1 0 1", "row 1 2 0", "row 1 3 2",
        "complain 0 3", "complain 4 1", "feed 51", "feed 0", "feed 40", "town", "year", "wish 0 true", "wish 0 false", "wish 9 true", "wish -1 true",
        "book 0 0", "book 9 3", "book -1 0", "image", "undo", "act 0 0 1", "act 1 1 1", "act 1 0 1", "act 9 0 1", "act 0 9 1", "tape 0 -1 0",
        "tape 0 0 3", "tape 0 0 4", "tape 0 0 5", "tape 0 1 4", "tape 1 2 3", "tape 2 3 2", "tape 3 4 5", "tape 4 4 5", "tape 5 0 0", "tape 5 3 60",
        "item 0 0 1", "item 0 3 1", "item 0 1 78", "item 1 2 -6", "item 2 1 1", "item 3 4 -8", "item 4 0 0", "item 4 5 1", "shift 0 1 0 0 1",
        "shift 0 0 0 1 1", "shift 4 0 4 1 5"};
    private static final Edges e = new Edges("NothingChangesTest");

    private NothingChangesTest() {
    }

    public static void main(String[] args) {
        e.begin("what is asked, or is so already, changes nothing", Edges.CROWDED);
        for (String call : ASKED) {
            e.holds(call, !e.isSeen(call));
        }
        e.begin("what is asked changes nothing, of 6", Edges.CROWDED);
        e.run("person 4 2", "friends 5 1 true", "friends 5 0 true", "undo", "person 5 1", "person 4 9", "person 6 0", "friends 1 5 true");
        for (String call : ASKED) {
            if (!call.startsWith("row") && !call.startsWith("complain") && !call.startsWith("friends")) {
                e.holds(call, !e.isSeen(call));
            }
        }
        e.begin("what changes is seen", Edges.CROWDED);
        for (String call : CHANGING) {
            e.holds(call, e.isSeen(call));
        }
        eachOtherwise();
        e.close();
    }

    /** Wishes are told apart by their pairs and by what is wished of them. */
    private static void eachOtherwise() {
        for (int pair = 0; pair < 10; pair++) {
            for (boolean are : new boolean[] {true, false}) {
                e.begin("one WISH more is seen", Edges.CROWDED);
                e.run("wish -1 true");
                String call = "wish " + pair + " " + are;
                e.holds(call, e.isSeen(call));
            }
        }
    }
}
