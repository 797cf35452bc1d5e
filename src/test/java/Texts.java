import java.util.ArrayList;
import java.util.HashSet;
import java.util.List;
import java.util.Set;

/** Towns' texts, read by all that may still come: each list tells one way in which the text could go on. */
final class Texts {
    private Texts() {
    }

    /** The fault of a text, or -1. */
    static int fault(String text) {
        Set<List<String>> ways = opened(Set.of(List.of("clauses 10")));
        for (int i = 0; i < text.length(); i++) {
            Set<List<String>> next = new HashSet<>();
            for (List<String> way : ways) {
                if (!way.isEmpty() && way.get(0).indexOf(text.charAt(i)) >= 0) {
                    next.add(way.subList(1, way.size()));
                }
            }
            if (next.isEmpty()) {
                return i;
            }
            ways = opened(next);
        }
        return ways.contains(List.of()) ? -1 : text.length();
    }

    /** Until each way begins with the signs that may come, which are in one string without a blank. */
    private static Set<List<String>> opened(Set<List<String>> ways) {
        Set<List<String>> done = new HashSet<>();
        List<List<String>> open = new ArrayList<>(ways);
        while (!open.isEmpty()) {
            List<String> way = open.remove(open.size() - 1);
            String head = way.isEmpty() ? "" : way.get(0);
            if (!head.matches("[a-z]+ [0-9]+")) {
                done.add(way);
                continue;
            }
            for (List<String> instead : instead(head)) {
                List<String> changed = new ArrayList<>(instead);
                changed.addAll(way.subList(1, way.size()));
                open.add(changed);
            }
        }
        return done;
    }

    private static List<List<String>> instead(String head) {
        String name = head.substring(0, head.indexOf(' '));
        int n = Integer.parseInt(head.substring(head.indexOf(' ') + 1));
        String digits = "0123456789";
        List<List<String>> all = new ArrayList<>();
        switch (name) {
            case "clauses":
                all.add(List.of("clause 0"));
                if (n > 1) {
                    all.add(List.of("clause 0", ";", "clauses " + (n - 1)));
                }
                break;
            case "clause":
                for (String word : new String[] {"want", "make", "break"}) {
                    List<String> signs = new ArrayList<>(List.of(word.split("")));
                    signs.addAll(List.of(" ", "number 0", " ", "either 0"));
                    all.add(signs);
                }
                break;
            case "number":
                all.add(List.of(digits));
                all.add(List.of(digits, digits));
                break;
            case "either":
                all.add(List.of("both " + n));
                all.add(List.of("both " + n, "|", "either " + n));
                break;
            case "both":
                all.add(List.of("factor " + n));
                all.add(List.of("factor " + n, "&", "both " + n));
                break;
            default:
                all.add(List.of("abfdey", "<=>", "number 0"));
                if (n < 4) {
                    all.add(List.of("!", "factor " + (n + 1)));
                    all.add(List.of("(", "either " + (n + 1), ")"));
                }
        }
        return all;
    }

    /** Where a sign stands that is in no brackets, or -1. */
    private static int outside(String e, char sign) {
        int open = 0;
        for (int i = 0; i < e.length(); i++) {
            open += e.charAt(i) == '(' ? 1 : e.charAt(i) == ')' ? -1 : 0;
            if (open == 0 && e.charAt(i) == sign) {
                return i;
            }
        }
        return -1;
    }

    static boolean holds(String e, Model.World w, int a, int b) {
        int or = outside(e, '|');
        if (or >= 0) {
            return holds(e.substring(0, or), w, a, b) | holds(e.substring(or + 1), w, a, b);
        }
        int and = outside(e, '&');
        if (and >= 0) {
            return holds(e.substring(0, and), w, a, b) & holds(e.substring(and + 1), w, a, b);
        }
        if (e.startsWith("!")) {
            return !holds(e.substring(1), w, a, b);
        }
        if (e.startsWith("(")) {
            return holds(e.substring(1, e.length() - 1), w, a, b);
        }
        int fact = switch (e.charAt(0)) {
            case 'a' -> a;
            case 'b' -> b;
            case 'f' -> w.are(a, b) ? 1 : 0;
            case 'd' -> w.many(a);
            case 'e' -> w.many(b);
            default -> w.year % 10;
        };
        return Integer.signum(Integer.compare(fact, Integer.parseInt(e.substring(2)))) == "<=>".indexOf(e.charAt(1)) - 1;
    }
}
