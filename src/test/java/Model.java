import java.util.ArrayList;
import java.util.List;
import java.util.Map;
import java.util.Set;
import java.util.TreeMap;
import java.util.TreeSet;

/** The document once more, as plainly as can be: sets of people and texts read anew each time. */
final class Model {
    static final int[] ABOVE = {-1, 0, 0, 0, 1, 2, 3};

    /** Who is there by number, who are friends, and the year. */
    static final class World {
        final TreeMap<Integer, int[]> people = new TreeMap<>();
        /** Each friendship as the lesser number times 10 and the greater one. */
        final Set<Integer> friends = new TreeSet<>();
        final Map<Integer, int[]> rows = new TreeMap<>();
        int year;
        String town;

        World copy() {
            World w = new World();
            w.people.putAll(people);
            w.friends.addAll(friends);
            rows.forEach((k, r) -> w.rows.put(k, r.clone()));
            w.year = year;
            w.town = town;
            return w;
        }

        boolean are(int a, int b) {
            return friends.contains(Math.min(a, b) * 10 + Math.max(a, b));
        }

        void set(int a, int b, boolean are) {
            int key = Math.min(a, b) * 10 + Math.max(a, b);
            if (are) {
                friends.add(key);
            } else {
                friends.remove(key);
            }
        }

        void change(int[] pair) {
            set(pair[0], pair[1], !are(pair[0], pair[1]));
        }

        int many(int a) {
            int n = 0;
            for (int b : people.keySet()) {
                n += b != a && are(a, b) ? 1 : 0;
            }
            return n;
        }

        boolean all(int a) {
            return many(a) == people.size() - 1;
        }

        int worth(int c, boolean areFriends) {
            int kind = people.get(c)[0];
            int v = people.get(c)[1];
            int weighty = v % 2 == 0 ? 1 : 2;
            int secret = areFriends ? 0 : 1;
            return switch (kind) {
                case 0 -> 1;
                case 1 -> weighty;
                case 2 -> secret;
                case 3 -> year % (v + 2) == 0 ? 0 : 1;
                case 4 -> all(c) ? weighty : 0;
                case 5 -> many(c) > 3 ? 0 : secret;
                default -> rows.get(c)[year % 4];
            };
        }

        int common(int a, int b) {
            int n = 0;
            for (int c : people.keySet()) {
                n += c != a && c != b && are(a, c) && are(b, c) ? worth(c, are(a, b)) : 0;
            }
            return n;
        }

        int says(String word, int a, int b) {
            if (town == null) {
                return 1;
            }
            int n = 0;
            boolean any = false;
            for (String clause : town.split(";")) {
                String[] parts = clause.split(" ");
                if (parts[0].equals(word)) {
                    any = true;
                    n += Texts.holds(parts[2], this, a, b) ? Integer.parseInt(parts[1]) : 0;
                }
            }
            return any ? n : 1;
        }

        int price(int a, int b) {
            return says(are(a, b) ? "break" : "make", a, b);
        }

        int by(int a, int b) {
            return Math.abs(common(a, b) - says("want", a, b));
        }

        List<int[]> pairs() {
            List<int[]> all = new ArrayList<>();
            for (int b : people.keySet()) {
                for (int a : people.keySet()) {
                    if (a < b) {
                        all.add(new int[] {a, b});
                    }
                }
            }
            return all;
        }

        int amiss() {
            int n = 0;
            for (int[] p : pairs()) {
                n += by(p[0], p[1]) != 0 ? 1 : 0;
            }
            return n;
        }

        int complains(int a) {
            int n = 0;
            for (int[] p : pairs()) {
                n += (p[0] == a || p[1] == a) && by(p[0], p[1]) != 0 ? 1 : 0;
            }
            return n;
        }
    }

    World w = new World();
    TreeMap<Integer, Integer> told = new TreeMap<>();
    List<int[]> wishes = new ArrayList<>();
    List<int[]> book = new ArrayList<>();
    Object[] image;
    List<String> towns = new ArrayList<>();
    String text = "";
    Object[] tapes = new Object[6];
    List<Integer> trace = new ArrayList<>();

    private boolean is(int p) {
        return w.people.containsKey(p);
    }

    private int n() {
        return w.people.size();
    }

    private int[] p(int pair) {
        return pair < 0 || pair >= w.pairs().size() ? null : w.pairs().get(pair);
    }

    int person(int kind, int v) {
        if (kind < 0 || kind > 6) return -1;
        if (v < 0 || v > 9) return -2;
        if (n() == 6) return -4;
        told.put(n(), 0);
        w.rows.put(n(), new int[4]);
        w.people.put(n(), new int[] {kind, v});
        return n() - 1;
    }

    int of(int p, int what) {
        if (!is(p) || what < 0 || what > 4) return -1;
        int bits = 0;
        for (int q : w.people.keySet()) bits += q != p && w.are(p, q) ? 1 << q : 0;
        return new int[] {w.people.get(p)[0], w.people.get(p)[1], bits, w.complains(p), told.get(p)}[what];
    }

    int friends(int a, int b, boolean are) {
        if (!is(a) || !is(b)) return -1;
        if (a == b) return -2;
        int were = w.are(a, b) ? 1 : 0;
        w.set(a, b, are);
        return were;
    }

    int pair(int a, int b) {
        if (!is(a) || !is(b)) return -1;
        if (a == b) return -2;
        for (int i = 0; ; i++) {
            if (p(i)[0] == Math.min(a, b) && p(i)[1] == Math.max(a, b)) return i;
        }
    }

    int at(int pair, int what) {
        int[] p = p(pair);
        if (p == null || what < 0 || what > 5) return -1;
        return new int[] {w.are(p[0], p[1]) ? 1 : 0, w.common(p[0], p[1]), w.says("want", p[0], p[1]), w.price(p[0], p[1]), p[0], p[1]}[what];
    }

    int row(int p, int part, int n) {
        if (!is(p) || part < 0 || part > 3) return -1;
        if (n < 0 || n > 3) return -2;
        if (w.people.get(p)[0] != 6) return -3;
        int was = w.rows.get(p)[part];
        w.rows.get(p)[part] = n;
        return was;
    }

    int feed(int sign) {
        if (sign < 0 || sign > 127) return -2;
        if (text.length() == 100) return -4;
        text += (char) sign;
        return text.length();
    }

    int town() {
        if (towns.size() == 6) return -4;
        String t = text;
        text = "";
        int fault = Texts.fault(t);
        if (fault >= 0) return -10 - fault;
        towns.add(t);
        w.town = t;
        return towns.size() - 1;
    }

    int year() {
        return w.year == 999 ? -3 : ++w.year;
    }

    int told(int what) {
        return what < 0 || what > 2 ? -1 : new int[] {w.year, w.pairs().size(), w.friends.size()}[what];
    }

    int amiss(int what) {
        int bits = 0;
        int by = 0;
        for (int i = 0; i < w.pairs().size(); i++) {
            int d = w.by(p(i)[0], p(i)[1]);
            bits |= d != 0 ? 1 << i : 0;
            by += d;
        }
        return what < 0 || what > 2 ? -1 : new int[] {bits, w.amiss(), by}[what];
    }

    int alls() {
        int bits = 0;
        for (int a : w.people.keySet()) bits |= w.all(a) ? 1 << a : 0;
        return bits;
    }

    int first(int what) {
        if (what != 0 && what != 1) return -1;
        int[] best = {-5, -5};
        int fewest = w.amiss();
        for (int i = 0; i < w.pairs().size(); i++) {
            World c = w.copy();
            c.change(p(i));
            if (c.amiss() < fewest) {
                fewest = c.amiss();
                best = new int[] {i, fewest};
            }
        }
        return best[what];
    }

    int cheapest(int what) {
        if (what < 0 || what > 3) return -1;
        List<int[]> sets = new ArrayList<>();
        int n = w.pairs().size();
        for (int i = -5; i < n; i++) {
            for (int j = -5; j < n; j++) {
                boolean none = i == -5 && j == -5;
                boolean one = i >= 0 && j == -5;
                if (!none && !one && (i < 0 || j <= i)) continue;
                World c = w.copy();
                int price = 0;
                for (int q : new int[] {i, j}) {
                    if (q >= 0) {
                        c.change(p(q));
                        price += w.price(p(q)[0], p(q)[1]);
                    }
                }
                if (c.amiss() == 0) sets.add(new int[] {price, none ? 0 : one ? 1 : 2, i, j});
            }
        }
        sets.sort((a, b) -> {
            for (int k = 0; k < 4; k++) {
                if (a[k] != b[k]) return Integer.compare(a[k], b[k]);
            }
            return 0;
        });
        return sets.isEmpty() ? -5 : sets.get(0)[what];
    }

    int goes(int what) {
        if (what != 0 && what != 1) return -1;
        int[] best = {-5, -5};
        for (int a : w.people.keySet()) {
            World c = w.copy();
            c.people.remove(a);
            c.friends.removeIf(f -> f / 10 == a || f % 10 == a);
            if (best[0] < 0 || c.amiss() < best[1]) best = new int[] {a, c.amiss()};
        }
        return best[what];
    }

    int befriends(int kind, int v, int what) {
        if (kind < 0 || kind > 6 || what < 0 || what > 1) return -1;
        if (v < 0 || v > 9) return -2;
        if (n() == 6) return -9;
        int[] best = {-1, 1000};
        for (int set = 0; set < 1 << n(); set++) {
            World c = w.copy();
            c.people.put(n(), new int[] {kind, v});
            c.rows.put(n(), new int[4]);
            for (int a = 0; a < n(); a++) c.set(a, n(), (set >> a) % 2 == 1);
            if (c.amiss() < best[1]) best = new int[] {set, c.amiss()};
        }
        return best[what];
    }

    int complain(int p, int n) {
        if (!is(p)) return -1;
        if (n < 0 || n > 5) return -2;
        return told.put(p, n);
    }

    private boolean asTold(World c) {
        return c.people.keySet().stream().allMatch(a -> c.complains(a) == told.get(a));
    }

    int made() {
        if (asTold(w)) return 100;
        for (int i = 0; i < w.pairs().size(); i++) {
            World c = w.copy();
            c.change(p(i));
            if (asTold(c)) return i;
        }
        return -5;
    }

    int far(int a, int b) {
        if (!is(a) || !is(b)) return -1;
        int[][] d = new int[6][6];
        for (int i = 0; i < 6; i++) {
            for (int j = 0; j < 6; j++) d[i][j] = i == j ? 0 : is(i) && is(j) && w.are(i, j) ? 1 : 99;
        }
        for (int k = 0; k < 6; k++) {
            for (int i = 0; i < 6; i++) {
                for (int j = 0; j < 6; j++) d[i][j] = Math.min(d[i][j], d[i][k] + d[k][j]);
            }
        }
        return d[a][b] >= 99 ? -5 : d[a][b];
    }

    int towns(int n, int k) {
        if (n < 2 || n > 5 || k < 0 || k > 3) return -2;
        World c = new World();
        for (int i = 0; i < n; i++) c.people.put(i, new int[2]);
        int many = 0;
        List<int[]> pairs = c.pairs();
        for (int ways = 0; ways < 1 << pairs.size(); ways++) {
            for (int i = 0; i < pairs.size(); i++) c.set(pairs.get(i)[0], pairs.get(i)[1], (ways >> i) % 2 == 1);
            many += pairs.stream().allMatch(p -> c.common(p[0], p[1]) == k) ? 1 : 0;
        }
        return many;
    }

    int next(int n, int what) {
        if (what != 0 && what != 1) return -1;
        if (n < 0 || n > 60) return -2;
        int[] best = {-1, 1000};
        for (int more = 0; more <= n; more++) {
            World c = w.copy();
            c.year += more;
            if (c.amiss() < best[1]) best = new int[] {more, c.amiss()};
        }
        return best[what];
    }

    private static long part(int above, int below, int part) {
        if (below == 0 || part != 0 && part != 1) return Long.MIN_VALUE;
        int g = java.math.BigInteger.valueOf(above).gcd(java.math.BigInteger.valueOf(below)).intValue();
        return (part == 0 ? above : below) / g;
    }

    long odds(int part) {
        int good = 0;
        for (int f : w.friends) {
            World c = w.copy();
            c.friends.remove(f);
            good += c.amiss() == 0 ? 1 : 0;
        }
        return part(good, w.friends.size(), part);
    }

    long mean(int part) {
        return part(w.pairs().stream().mapToInt(p -> w.common(p[0], p[1])).sum(), w.pairs().size(), part);
    }

    int wish(int pair, boolean are) {
        if (pair == -1) {
            wishes = new ArrayList<>();
            return 0;
        }
        if (p(pair) == null) return -1;
        if (wishes.size() == 6) return -4;
        wishes.add(new int[] {pair, are ? 1 : 0});
        return wishes.size();
    }

    int kept(int what) {
        if (what != 0 && what != 1) return -1;
        int[] sums = new int[2];
        for (int[] wish : wishes) {
            if (at(wish[0], 0) == wish[1]) {
                sums[0]++;
            } else {
                sums[1] += at(wish[0], 3);
            }
        }
        return sums[what];
    }

    int book(int pair, int n) {
        if (pair == -1) {
            book = new ArrayList<>();
            return 0;
        }
        if (p(pair) == null) return -1;
        if (n < 0 || n > 99) return -2;
        if (book.size() == 12) return -4;
        book.add(new int[] {pair, n});
        return book.size();
    }

    int looked() {
        for (int i = 0; i < book.size(); i++) {
            if (at(book.get(i)[0], 1) != book.get(i)[1]) return i;
        }
        return -5;
    }

    int judge(int tape, int i) {
        if (tape < 0 || tape > 5) return -1;
        Object row = tapes[tape];
        if (row != null && !(row instanceof boolean[])) return -12;
        boolean[] b = row == null ? new boolean[0] : (boolean[]) row;
        for (int k = 0; k < w.pairs().size(); k++) {
            long place = (long) i + k;
            if (i < 0 || place >= b.length) return 100 + k;
            if (b[(int) place] != w.are(p(k)[0], p(k)[1])) return k;
        }
        return -5;
    }

    private Object[] all() {
        List<int[]> wishesNow = new ArrayList<>(wishes);
        List<int[]> bookNow = new ArrayList<>(book);
        return new Object[] {w.copy(), new TreeMap<>(told), wishesNow, bookNow};
    }

    int image() {
        image = all();
        return n();
    }

    @SuppressWarnings("unchecked")
    int undo() {
        if (image == null) return -3;
        w = (World) image[0];
        told = (TreeMap<Integer, Integer>) image[1];
        wishes = (List<int[]>) image[2];
        book = (List<int[]>) image[3];
        image = all();
        return n();
    }

    private int body(int p, int kind, int act, int x) {
        int v = w.people.get(p)[1];
        int number = kind * 10 + 10 + act;
        switch (number) {
            case 10: trace.add(10); return x + p;
            case 11: trace.add(11); return does(p, 0, x) - v;
            case 12: trace.add(12); return does(p, 1, x) * 2;
            case 21: trace.add(20); return body(p, 0, 1, x) ^ 6;
            case 30: trace.add(30); return body(p, 0, 0, x * 3);
            case 42: {
                trace.add(40);
                int told = body(p, 0, 2, x);
                return told + does(p, 1, 1);
            }
            case 50: trace.add(50); return -body(p, 1, 0, x);
            case 51: trace.add(51); return body(p, 1, 1, x + 1);
            case 62: trace.add(60); return body(p, 2, 2, x - p);
            case 71: {
                trace.add(70);
                int counts = body(p, 3, 1, x);
                return counts + body(p, 3, 0, 2);
            }
            case 70: trace.add(71); return body(p, 3, 0, x) ^ v;
            default: return body(p, ABOVE[kind], act, x);
        }
    }

    private int does(int p, int act, int x) {
        return body(p, w.people.get(p)[0], act, x);
    }

    int act(int p, int act, int x) {
        trace = new ArrayList<>();
        return !is(p) || act < 0 || act > 2 ? 0 : does(p, act, x);
    }

    int trace(int i) {
        return i < 0 || i >= Math.min(20, trace.size()) ? -1 : trace.get(i);
    }

    int taken(int p, int k) {
        if (k < 0 || k > 6) return -2;
        if (!is(p)) return -11;
        for (int kind = w.people.get(p)[0]; kind >= 0; kind = ABOVE[kind]) {
            if (kind == k) return w.people.get(p)[0];
        }
        return -12;
    }

    int count(int what) {
        if (what < 0 || what > 5) return -2;
        return new int[] {n(), towns.size(), wishes.size(), book.size(), text.length(), trace.size()}[what];
    }

    int tape(int tape, int sort, int n) {
        if (tape < 0 || tape > 5) return -1;
        if (sort < -1 || sort > 4 || sort >= 0 && n > 60) return -2;
        if (sort >= 0 && n < 0) return -14;
        tapes[tape] = switch (sort) {
            case 0 -> new byte[n];
            case 1 -> new short[n];
            case 2 -> new int[n];
            case 3 -> new long[n];
            case 4 -> new boolean[n];
            default -> null;
        };
        return 1;
    }

    int item(int tape, int i, long v) {
        if (tape < 0 || tape > 5) return -1;
        Object row = tapes[tape];
        if (row == null) return -11;
        if (i < 0 || i >= java.lang.reflect.Array.getLength(row)) return -13;
        if (row instanceof byte[] r) r[i] = (byte) v;
        if (row instanceof short[] r) r[i] = (short) v;
        if (row instanceof int[] r) r[i] = (int) v;
        if (row instanceof long[] r) r[i] = v;
        if (row instanceof boolean[] r) r[i] = v != 0;
        return 1;
    }

    long read(int tape, int i) {
        if (tape < 0 || tape > 5 || tapes[tape] == null) return Long.MIN_VALUE;
        Object row = tapes[tape];
        if (i < 0 || i >= java.lang.reflect.Array.getLength(row)) return Long.MIN_VALUE;
        return row instanceof boolean[] r ? r[i] ? 1 : 0 : java.lang.reflect.Array.getLong(row, i);
    }

    int shift(int tape, int i, int other, int j, int n) {
        if (tape < 0 || tape > 5 || other < 0 || other > 5) return -1;
        Object a = tapes[tape];
        Object b = tapes[other];
        if (a == null || b == null) return -11;
        if (a.getClass() != b.getClass()) return -12;
        try {
            System.arraycopy(a, i, b, j, n);
        } catch (IndexOutOfBoundsException e) {
            return -13;
        }
        return n;
    }
}
