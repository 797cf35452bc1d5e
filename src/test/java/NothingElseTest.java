import java.util.ArrayList;
import java.util.LinkedHashMap;
import java.util.List;
import java.util.Map;
import java.util.Set;

/** Each call that changes something changes just what it says, and nothing else of all that an object holds. */
public final class NothingElseTest {
    /** Those of Edges.CROWDED who COUNT the same whoever is there and in whatever YEAR. */
    private static final int[] STEADY = {0, 2, 3};
    private static final int PEOPLE = 5, ITEMS = 7;
    private static final String[] KEPT = {"people", "friends", "rows", "told", "year", "wishes", "book", "town"};
    private static final Map<String, List<String>> PARTS = parts();
    private static final Check check = new Check("NothingElseTest");

    private NothingElseTest() {
    }

    public static void main(String[] args) {
        changes("person 4 9", "people");
        changes("friends 2 3 true", "friends");
        changes("friends 0 1 false", "friends");
        changes("row 1 0 3", "rows");
        changes("feed 51", "text");
        changes("town", "text");
        changes("'3", "text");
        changesAfter("'3", "town", "text", "towns", "town");
        changes("year", "year");
        changes("complain 0 3", "told");
        changes("wish 0 false", "wishes");
        changes("wish -1 true", "wishes");
        changes("book 0 9", "book");
        changes("book -1 0", "book");
        changes("image", "image's people", "image's friends", "image's rows", "image's told", "image's year", "image's wishes",
            "image's book", "image's town");
        changes("undo", KEPT);
        changes("act 0 2 1", "trace");
        changes("act 9 0 1", "trace");
        for (int tape = 0; tape < 6; tape++) {
            changes("tape " + tape + " 2 7", "tape " + tape);
        }
        for (int tape = 0; tape < 5; tape++) {
            changes("tape " + tape + " -1 0", "tape " + tape);
            changes("item " + tape + " 1 " + (tape == 4 ? 1 : 3), "tape " + tape);
        }
        changesAfter("tape 5 3 7", "shift 3 4 5 1 1", "tape 5");
        changesAfter("tape 5 0 7", "shift 0 1 5 0 1", "tape 5");
        check.close();
    }

    private static void changes(String call, String... those) {
        changesAfter(null, call, those);
    }

    private static void changesAfter(String ahead, String call, String... those) {
        check.holds(call + " changes " + Set.of(those) + ", not " + changed(ahead, call), Set.of(those).equals(changed(ahead, call)));
    }

    private static Set<String> changed(String ahead, String call) {
        Set<String> changed = new java.util.TreeSet<>();
        for (String part : PARTS.keySet()) {
            if (!seen(part, ahead, null).equals(seen(part, ahead, call))) {
                changed.add(part);
            }
        }
        return changed;
    }

    private static List<Long> seen(String part, String ahead, String call) {
        Script x = new Script();
        for (String made : Edges.CROWDED) {
            x.call(made);
        }
        for (String made : new String[] {ahead, call}) {
            if (made != null) {
                x.call(made);
            }
        }
        List<Long> answers = new ArrayList<>();
        for (String asked : PARTS.get(part)) {
            long answer = x.call(asked);
            if (!asked.startsWith("friends")) {
                answers.add(answer);
            }
        }
        return answers;
    }

    private static Map<String, List<String>> parts() {
        Map<String, List<String>> parts = new LinkedHashMap<>();
        parts.put("people", asked("count 0", "told 1", "of # 0", "of # 1"));
        parts.put("friends", asked("told 2", "of ~ 2"));
        parts.put("rows", asked("row 1 0 0", "row 1 1 0", "row 1 2 0", "row 1 3 0"));
        parts.put("told", asked("of ~ 4"));
        parts.put("year", asked("told 0"));
        parts.put("wishes", wishes());
        parts.put("book", book());
        parts.put("text", asked("count 4", "'3", "count 4"));
        parts.put("towns", asked("count 1"));
        parts.put("town", town());
        parts.put("trace", trace());
        for (int tape = 0; tape < 6; tape++) {
            parts.put("tape " + tape, items(tape));
        }
        for (String part : KEPT) {
            List<String> image = new ArrayList<>(List.of("undo"));
            image.addAll(parts.get(part));
            parts.put("image's " + part, image);
        }
        return parts;
    }

    /** Those with ~ once for each who is there, those with # for one who may come, too. */
    private static List<String> asked(String... calls) {
        List<String> all = new ArrayList<>();
        for (String call : calls) {
            int times = call.contains("#") ? PEOPLE + 1 : call.contains("~") ? PEOPLE : 1;
            for (int person = 0; person < times; person++) {
                all.add(call.replace("#", "" + person).replace("~", "" + person));
            }
        }
        return all;
    }

    private static List<String> strangers() {
        List<String> calls = new ArrayList<>();
        for (int greater = 1; greater < PEOPLE; greater++) {
            for (int lesser = 0; lesser < greater; lesser++) {
                calls.add("friends " + lesser + " " + greater + " false");
            }
        }
        return calls;
    }

    /** What is kept as one after another are friends alone. */
    private static List<String> wishes() {
        List<String> calls = new ArrayList<>(List.of("count 2"));
        calls.addAll(strangers());
        calls.add("kept 0");
        for (String apart : strangers()) {
            calls.addAll(List.of(apart.replace("false", "true"), "kept 0", apart));
        }
        return calls;
    }

    /** What is looked at as each two have one and another in common who counts the same always. */
    private static List<String> book() {
        List<String> calls = new ArrayList<>(List.of("count 3"));
        calls.addAll(strangers());
        calls.add("looked");
        for (int common : STEADY) {
            for (int one = 0; one < PEOPLE; one++) {
                for (int other = one + 1; other < PEOPLE; other++) {
                    if (one != common && other != common) {
                        calls.addAll(List.of("friends " + one + " " + common + " true", "friends " + other + " " + common + " true", "looked",
                            "friends " + one + " " + common + " false", "friends " + other + " " + common + " false"));
                    }
                }
            }
        }
        return calls;
    }

    private static List<String> town() {
        List<String> calls = new ArrayList<>(strangers());
        for (int pair = 0; pair < 10; pair++) {
            calls.addAll(List.of("at " + pair + " 2", "at " + pair + " 3"));
        }
        return calls;
    }

    private static List<String> trace() {
        List<String> calls = new ArrayList<>(List.of("count 5"));
        for (int i = 0; i < 20; i++) {
            calls.add("trace " + i);
        }
        return calls;
    }

    private static List<String> items(int tape) {
        List<String> calls = new ArrayList<>();
        for (int i = 0; i <= ITEMS; i++) {
            calls.add("read " + tape + " " + i);
        }
        calls.addAll(List.of("item " + tape + " 0 1311768467463790320", "read " + tape + " 0"));
        return calls;
    }
}
