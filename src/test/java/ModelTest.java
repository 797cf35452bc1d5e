import java.util.Random;

/** Long runs of calls by lot, the same each time, answered by the program and by the model. */
public final class ModelTest {
    private static final int RUNS = 900, CALLS = 512;
    /** As many calls as one step of a run makes at most: it feeds a whole text. */
    private static final int MOST_AT_ONCE = 104;
    private final Check check = new Check("ModelTest");
    private final Random lot = new Random(20261118);
    private OneFriend x;
    private Model m;

    public static void main(String[] args) {
        ModelTest test = new ModelTest();
        for (int run = 0; run < RUNS && test.check.wrongs() == 0; run++) {
            test.run(run);
        }
        test.check.close();
    }

    private void run(int run) {
        x = new OneFriend();
        m = new Model();
        int before = check.all();
        if (run % 4 != 0) {
            begin(run);
        }
        // Nothing is promised of calls behind the 512th.
        for (int steps = 0; check.all() - before <= CALLS - MOST_AT_ONCE && steps < CALLS; steps++) {
            call(run, lot.nextInt(steps < 60 ? 60 : 110));
        }
        check.holds("run " + run + " makes 512 calls at most", check.all() - before <= CALLS);
    }

    /** People of some kinds and a few friendships, so that less is left to the lot. */
    private void begin(int run) {
        int people = 1 + lot.nextInt(6);
        for (int i = 0; i < people; i++) {
            int kind = run % 4 == 1 ? 0 : lot.nextInt(7);
            int v = lot.nextInt(10);
            check.due("run " + run + " person", m.person(kind, v), x.person(kind, v));
        }
        int friends = lot.nextInt(12);
        for (int i = 0; i < friends; i++) {
            int a = lot.nextInt(people);
            int b = lot.nextInt(people);
            check.due("run " + run + " friends", m.friends(a, b, true), x.friends(a, b, true));
        }
    }

    /** Mostly from 0 to under the end; now and then a little or far outside. */
    private int any(int end) {
        switch (lot.nextInt(24)) {
            case 0:
                return lot.nextInt(end + 4) - 2;
            case 1:
                return lot.nextInt(8) == 0 ? lot.nextBoolean() ? Integer.MAX_VALUE - lot.nextInt(3) : Integer.MIN_VALUE + lot.nextInt(3) : end;
            default:
                return lot.nextInt(Math.max(1, end));
        }
    }

    private int someone() {
        return any(Math.max(1, m.w.people.size()));
    }

    private int somePair() {
        return any(Math.max(1, m.w.pairs().size()));
    }

    private int fewCommon() {
        return lot.nextInt(3) == 0 ? any(100) : lot.nextInt(3);
    }

    private void call(int run, int which) {
        int a = someone();
        int b = someone();
        int n = any(4);
        int k = any(7);
        int v = any(10);
        int part = any(2);
        boolean are = lot.nextInt(3) > 0;
        int tape = any(6);
        int other = any(6);
        int i = any(8);
        int j = any(8);
        int pair = somePair();
        String c = "run " + run + " by " + which + " (" + a + " " + b + " " + n + " " + k + " " + v + " " + part + " " + are + ") ";
        switch (which) {
            case 0: case 1: check.due(c + "person", m.person(k, v), x.person(k, v)); break;
            case 2: case 3: case 4: case 5: case 6: case 7: case 8:
                check.due(c + "friends", m.friends(a, b, are), x.friends(a, b, are)); break;
            case 9: check.due(c + "pair", m.pair(a, b), x.pair(a, b)); break;
            case 10: case 11: case 12: {
                int told = any(4);
                check.due(c + "row " + told, m.row(a, n, told), x.row(a, n, told));
                break;
            }
            case 13: case 14: case 15: text(c); break;
            case 16: case 17: check.due(c + "year", m.year(), x.year()); break;
            case 18: case 19: {
                int told = lot.nextInt(2) == 0 ? any(6) : m.w.people.containsKey(a) ? m.w.complains(a) : 0;
                check.due(c + "complain", m.complain(a, told), x.complain(a, told));
                break;
            }
            case 20: complaints(c); break;
            case 21: case 22: check.due(c + "wish " + pair, m.wish(pair, are), x.wish(pair, are)); break;
            case 23: if (v == 0) check.due(c + "wish -1", m.wish(-1, are), x.wish(-1, are)); break;
            case 24: case 25: case 26: {
                int common = lot.nextInt(4) > 0 && m.at(pair, 1) >= 0 ? m.at(pair, 1) : fewCommon();
                check.due(c + "book " + pair + " " + common, m.book(pair, common), x.book(pair, common));
                break;
            }
            case 27: if (v == 0) check.due(c + "book -1", m.book(-1, n), x.book(-1, n)); break;
            case 28: case 29: judge(c, lot.nextInt(6), any(3)); break;
            case 30: if (part == 0) check.due(c + "image", m.image(), x.image()); break;
            case 31: if (part == 0) check.due(c + "undo", m.undo(), x.undo()); break;
            case 32: case 33: case 34: {
                int given = lot.nextInt(4) == 0 ? lot.nextInt() : lot.nextInt(100);
                int act = any(3);
                check.due(c + "act " + act + " " + given, m.act(a, act, given), x.act(a, act, given));
                for (int t = -1; t <= 21; t++) {
                    check.due(c + "trace " + t, m.trace(t), x.trace(t));
                }
                break;
            }
            case 35: case 36: {
                int sort = lot.nextInt(3) == 0 ? 4 : any(6) - 1;
                int length = lot.nextInt(10) == 0 ? any(64) : any(12);
                check.due(c + "tape " + tape + " " + sort + " " + length, m.tape(tape, sort, length), x.tape(tape, sort, length));
                break;
            }
            case 37: case 38: case 39: {
                long item = lot.nextBoolean() ? lot.nextLong() : lot.nextInt(3) * 128L;
                check.due(c + "item " + tape + " " + i + " " + item, m.item(tape, i, item), x.item(tape, i, item));
                break;
            }
            case 40: case 41: check.due(c + "read " + tape + " " + i, m.read(tape, i), x.read(tape, i)); break;
            case 42: case 43: case 44: {
                int same = lot.nextInt(2) == 0 ? tape : other;
                check.due(c + "shift " + tape + " " + i + " " + same + " " + j, m.shift(tape, i, same, j, n), x.shift(tape, i, same, j, n));
                for (int t = 0; t < 12; t++) {
                    check.due(c + "read after a shift " + t, m.read(same, t), x.read(same, t));
                }
                break;
            }
            default: ask(c, which % 22, a, b, n); break;
        }
    }

    private void ask(String c, int which, int a, int b, int n) {
        int what = any(5);
        int two = any(2);
        int k = any(7);
        int v = any(10);
        int far = any(61);
        int pair = somePair();
        switch (which) {
            case 0: check.due(c + "of " + what, m.of(a, what), x.of(a, what)); break;
            case 1: case 2: check.due(c + "at " + pair + " " + what, m.at(pair, what), x.at(pair, what)); break;
            case 3: check.due(c + "told " + n, m.told(n), x.told(n)); break;
            case 4: case 5: check.due(c + "amiss " + n, m.amiss(n), x.amiss(n)); break;
            case 6: check.due(c + "alls", m.alls(), x.alls()); break;
            case 7: case 8: check.due(c + "first " + two, m.first(two), x.first(two)); break;
            case 9: case 10: check.due(c + "cheapest " + n, m.cheapest(n), x.cheapest(n)); break;
            case 11: check.due(c + "goes " + two, m.goes(two), x.goes(two)); break;
            case 12: check.due(c + "befriends " + k + " " + v + " " + two, m.befriends(k, v, two), x.befriends(k, v, two)); break;
            case 13: check.due(c + "made", m.made(), x.made()); break;
            case 14: check.due(c + "far", m.far(a, b), x.far(a, b)); break;
            case 15: if (v < 2) check.due(c + "towns " + what + " " + n, m.towns(what, n), x.towns(what, n)); break;
            case 16: check.due(c + "next " + far + " " + two, m.next(far, two), x.next(far, two)); break;
            case 17: check.due(c + "odds " + two, m.odds(two), x.odds(two)); break;
            case 18: check.due(c + "mean " + two, m.mean(two), x.mean(two)); break;
            case 19: check.due(c + "kept " + two, m.kept(two), x.kept(two)); break;
            case 20: check.due(c + "looked", m.looked(), x.looked()); break;
            default:
                check.due(c + "taken " + k, m.taken(a, k), x.taken(a, k));
                check.due(c + "count " + what, m.count(what), x.count(what));
                break;
        }
    }

    /** All complaints as they would be by some change, so that somebody made it. */
    private void complaints(String c) {
        Model.World w = m.w.copy();
        if (!w.pairs().isEmpty() && lot.nextInt(4) > 0) {
            w.change(w.pairs().get(lot.nextInt(w.pairs().size())));
        }
        for (int a : w.people.keySet()) {
            int n = w.complains(a);
            check.due(c + "complain " + a + " " + n, m.complain(a, n), x.complain(a, n));
        }
        check.due(c + "made", m.made(), x.made());
    }

    /** A row that tells who are friends, with a fault now and then. */
    private void judge(String c, int tape, int from) {
        if (lot.nextInt(3) > 0) {
            int length = Math.max(0, m.w.pairs().size() + lot.nextInt(5) - 2);
            check.due(c + "tape", m.tape(tape, 4, length), x.tape(tape, 4, length));
            for (int i = 0; from >= -2 && i < length - from; i++) {
                boolean so = m.at(i, 0) == 1 ^ lot.nextInt(30) == 0;
                check.due(c + "item", m.item(tape, from + i, so ? 256 : 0), x.item(tape, from + i, so ? 256 : 0));
            }
        }
        check.due(c + "judge " + tape + " " + from, m.judge(tape, from), x.judge(tape, from));
    }

    // ---- texts by lot

    private void text(String c) {
        StringBuilder text = new StringBuilder();
        do {
            text.append(clause());
        } while (lot.nextInt(3) > 0 && text.append(';') != null);
        if (lot.nextInt(3) > 0) {
            spoil(text);
        }
        for (int i = 0; i < text.length() && m.text.length() < 100; i++) {
            int sign = text.charAt(i);
            check.due(c + "feed", m.feed(sign), x.feed(sign));
        }
        if (lot.nextInt(20) > 0) {
            String all = m.text;
            check.due(c + "town " + all, m.town(), x.town());
        }
    }

    private void spoil(StringBuilder text) {
        String signs = "wmbantkre abfdey<=>0123456789()!&|; x";
        int place = lot.nextInt(text.length());
        char sign = signs.charAt(lot.nextInt(signs.length()));
        switch (lot.nextInt(4)) {
            case 0: text.setCharAt(place, sign); break;
            case 1: text.deleteCharAt(place); break;
            case 2: text.insert(place, sign); break;
            default: text.setLength(place); break;
        }
    }

    private String clause() {
        String word = new String[] {"want", "want", "make", "break"}[lot.nextInt(4)];
        int n = lot.nextInt(5) == 0 ? lot.nextInt(100) : lot.nextInt(3);
        return word + " " + n + " " + either(0);
    }

    private String either(int within) {
        return lot.nextInt(4) == 0 ? both(within) + "|" + either(within) : both(within);
    }

    private String both(int within) {
        return lot.nextInt(4) == 0 ? factor(within) + "&" + both(within) : factor(within);
    }

    private String factor(int within) {
        int which = lot.nextInt(within < 5 ? 8 : 40);
        if (which < 2) {
            return "!" + factor(within + 1);
        }
        if (which < 4) {
            return "(" + either(within + 1) + ")";
        }
        char letter = "abfdeyfff".charAt(lot.nextInt(9));
        int number = letter == 'f' ? lot.nextInt(2) : lot.nextInt(6);
        return "" + letter + "<=>".charAt(lot.nextInt(3)) + number;
    }
}
