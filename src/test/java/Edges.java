import java.util.ArrayList;
import java.util.Collections;
import java.util.List;

/** Sentences of the document, each with calls at its edges: what they answer, and that a refused or asking call changes nothing. */
final class Edges {
    static final int NONE = -1, BAD = -2, STATE = -3, FULL = -4, NOT_ANY = -5, NO_ROOM = -9;
    static final int NOTHING = -11, CAST = -12, PLACE = -13, SIZE = -14;
    static final long NO = Long.MIN_VALUE;
    /** Five people and something of all that there is, otherwise than in the image. */
    static final String[] CROWDED = {"person 0 3", "person 6 4", "person 1 7", "friends 0 1 true", "friends 1 2 true", "row 1 2 3",
        "complain 0 2", "wish 0 true", "book 1 2", "'want 2 a=0;make 3 b=1;make 7 a=1;break 4 a<9", "town", "year", "image",
        "person 2 2", "person 3 1", "friends 0 3 true", "friends 2 4 true", "friends 1 4 true", "row 1 1 2", "row 1 3 1",
        "complain 3 4", "complain 1 5", "wish 5 false", "wish 9 true", "book 4 1", "book 8 0", "year", "year",
        "'want 1 f=1;want 2 a=1|b>3;make 5 b=2;make 9 a=2;break 6 f=1", "town", "'want 7 a=1|b=", "tape 0 0 4", "item 0 1 77",
        "tape 1 1 3", "item 1 2 -5", "tape 2 2 2", "item 2 0 1000", "tape 3 3 5", "item 3 4 -9", "tape 4 4 6", "item 4 0 1", "act 1 2 5"};
    /** The six people of all kinds but one, none of whom are friends. */
    static final String[] SIX = {"person 0 1", "person 1 2", "person 2 3", "person 6 4", "person 4 5", "person 5 6"};

    private final Check check;
    private final List<String> done = new ArrayList<>();
    private Script now;
    private String sentence = "";
    /** All that can be seen after the calls that are done, if it has been looked at. */
    private List<Long> seen;

    Edges(String name) {
        check = new Check(name);
    }

    /** As many CLAUSES of a word as 100 bytes hold, of 99 each, for each PAIR: 8 of want, of make, 7 of break. */
    static String most(String word) {
        String clause = word + " 99 a<9";
        return String.join(";", Collections.nCopies(101 / (clause.length() + 1), clause));
    }

    /** A new object, for a sentence, on which these calls are made first. */
    void begin(String newSentence, String... calls) {
        sentence = newSentence;
        done.clear();
        seen = null;
        now = new Script();
        run(calls);
    }

    void run(String... calls) {
        for (String call : calls) {
            now.call(call);
            done.add(call);
            seen = null;
        }
    }

    void repeat(int times, String call) {
        for (int i = 0; i < times; i++) {
            run(call);
        }
    }

    /** The call answers so; what it changes stays. */
    void is(String call, long due) {
        check.due(sentence + ": " + call, due, now.call(call));
        done.add(call);
        seen = null;
    }

    /** The call, which asks or is refused, answers so, and all that can be seen then is as without it. */
    void keeps(String call, long due) {
        check.due(sentence + ": " + call, due, now.call(call));
        holds(call + " changes nothing", !isSeen(call));
    }

    /** Whether anything that can be seen is otherwise than without the call. */
    boolean isSeen(String call) {
        if (seen == null) {
            seen = seenAfter(null);
        }
        return !seen.equals(seenAfter(call));
    }

    void holds(String what, boolean so) {
        check.holds(sentence + ": " + what, so);
    }

    void answer(String call, long due, long got) {
        check.due(sentence + ": " + call, due, got);
    }

    void keepsEach(long due, String... calls) {
        for (String call : calls) {
            keeps(call, due);
        }
    }

    private List<Long> seenAfter(String last) {
        List<Long> answers = new ArrayList<>();
        for (List<String> part : Survey.PARTS) {
            Script twin = new Script();
            for (String call : done) {
                twin.call(call);
            }
            if (last != null) {
                twin.call(last);
            }
            for (String call : part) {
                answers.add(twin.call(call));
            }
        }
        return answers;
    }

    void close() {
        check.close();
    }
}
