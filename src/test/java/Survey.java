import java.util.ArrayList;
import java.util.List;

/** All that can be seen of an object, as calls to be made; each part on an object of its own. */
final class Survey {
    private static final int PEOPLE = 6, PAIRS = 15, TAPES = 6, ITEMS = 60, TRACED = 21;
    /** What is asked of the people, the towns and what was told of them; then the rows, which asking changes. */
    private static final List<String> VILLAGE = village();
    /** What is wished and what stands in the book, seen by what changes of pairs do. */
    private static final List<String> TOLD_BY_HAND = toldByHand();
    private static final List<String> TEXT = text();
    static final List<List<String>> PARTS = List.of(VILLAGE, TOLD_BY_HAND, TEXT, undone(VILLAGE), undone(TOLD_BY_HAND), undone(TEXT),
        tapes(0), tapes(3));

    private Survey() {
    }

    private static List<String> village() {
        List<String> calls = new ArrayList<>();
        for (int i = 0; i < 6; i++) {
            calls.add("count " + i);
        }
        for (int i = 0; i < TRACED; i++) {
            calls.add("trace " + i);
        }
        for (int person = 0; person < PEOPLE; person++) {
            for (int what = 0; what < 5; what++) {
                calls.add("of " + person + " " + what);
            }
        }
        for (int pair = 0; pair < PAIRS; pair++) {
            for (int what = 0; what < 4; what++) {
                calls.add("at " + pair + " " + what);
            }
        }
        calls.addAll(List.of("told 0", "told 1", "told 2", "amiss 0", "amiss 2", "alls", "first 0", "first 1", "cheapest 0", "cheapest 2",
            "cheapest 3", "goes 0", "goes 1", "befriends 1 1 0", "befriends 1 1 1", "made", "far 0 1", "next 60 0", "next 60 1",
            "odds 0", "odds 1", "mean 0", "mean 1", "kept 0", "kept 1", "looked"));
        for (int person = 0; person < PEOPLE; person++) {
            for (int part = 0; part < 4; part++) {
                calls.add("row " + person + " " + part + " 0");
            }
        }
        return calls;
    }

    private static List<String> toldByHand() {
        List<String> calls = new ArrayList<>();
        for (int greater = 1; greater < PEOPLE; greater++) {
            for (int lesser = 0; lesser < greater; lesser++) {
                for (boolean are : new boolean[] {true, false}) {
                    calls.add("friends " + lesser + " " + greater + " " + are);
                    calls.addAll(List.of("kept 0", "kept 1", "looked", "made"));
                }
            }
        }
        calls.addAll(List.of("wish 0 true", "book 0 0"));
        return calls;
    }

    /** Behind a text that is half a clause this makes it whole. */
    private static List<String> text() {
        List<String> calls = new ArrayList<>(List.of("'3", "count 4", "town", "count 1"));
        for (int pair = 0; pair < PAIRS; pair++) {
            calls.addAll(List.of("at " + pair + " 2", "at " + pair + " 3"));
        }
        calls.addAll(List.of("year", "person 6 1", "count 0"));
        return calls;
    }

    private static List<String> undone(List<String> part) {
        List<String> calls = new ArrayList<>(List.of("undo"));
        calls.addAll(part);
        return calls;
    }

    /** Three tapes: their items; their sorts, by how an item wraps, and by what they can be shifted to. */
    private static List<String> tapes(int from) {
        List<String> calls = new ArrayList<>();
        for (int tape = from; tape < from + 3; tape++) {
            for (int i = 0; i < ITEMS; i++) {
                calls.add("read " + tape + " " + i);
            }
            calls.addAll(List.of("judge " + tape + " 0", "item " + tape + " 0 1311768467463790320", "read " + tape + " 0"));
            for (int other = 0; other < TAPES; other++) {
                calls.add("shift " + tape + " 0 " + other + " 0 0");
            }
        }
        return calls;
    }
}
