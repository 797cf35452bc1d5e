import java.util.Arrays;

/** Promises 14, 15, 18, 19: the FIRST CHANGE, the CHEAPEST, COMPLAINTS and WHO MADE IT. */
public final class ChangeEdgesTest {
    private static final Edges e = new Edges("ChangeEdgesTest");

    private ChangeEdgesTest() {
    }

    public static void main(String[] args) {
        first();
        cheapest();
        cheapestOfSeveral();
        complain();
        made();
        e.close();
    }

    private static String[] plain(int people) {
        String[] calls = new String[people];
        Arrays.fill(calls, "person 0 0");
        return calls;
    }

    private static void firstIs(long pair, long many) {
        e.keeps("first 0", pair);
        e.keeps("first 1", many);
    }

    private static void first() {
        for (String[] scene : new String[][] {{}, Edges.CROWDED}) {
            e.begin("first: NONE", scene);
            e.keepsEach(Edges.NONE, "first -1", "first 2", "first MIN", "first MAX");
        }
        e.begin("FIRST CHANGE: -5: there are no PAIRS");
        firstIs(Edges.NOT_ANY, Edges.NOT_ANY);
        e.run("person 0 0");
        firstIs(Edges.NOT_ANY, Edges.NOT_ANY);
        e.begin("FIRST CHANGE: if fewer than now", plain(2));
        firstIs(Edges.NOT_ANY, Edges.NOT_ANY);
        e.run("'want 1 f=0", "town");
        firstIs(0, 0);
        e.run("friends 0 1 true");
        firstIs(Edges.NOT_ANY, Edges.NOT_ANY);
        e.begin("FIRST CHANGE: the fewest, of several the first", plain(4));
        e.run("'want 1 f=0", "town");
        firstIs(0, 5);
        e.run("friends 0 1 true");
        firstIs(1, 3);
        e.run("friends 0 2 true");
        firstIs(3, 0);
        e.run("friends 0 3 true");
        firstIs(Edges.NOT_ANY, Edges.NOT_ANY);
        // A CHANGE of the PAIR 0 leaves but one AMISS, too, but that of the PAIR 3 none.
        e.begin("FIRST CHANGE: the fewest, also behind one that does with fewer", plain(4));
        e.run("'want 1 f=0", "town", "friends 2 3 true", "friends 1 3 true");
        firstIs(3, 0);
        e.begin("FIRST CHANGE: to break is a CHANGE, too", plain(3));
        e.run("friends 0 1 true", "friends 0 2 true", "'want 0 a<9", "town");
        firstIs(0, 0);
        e.begin("FIRST CHANGE: the last PAIR", plain(6));
        e.run("'want 1 f=0&a=4", "town");
        firstIs(14, 0);
        // The PAIR 0 would be AMISS by 2, no more by 9; without the PAIR 2, which costs nothing, fewer would be so by less.
        e.begin("FIRST CHANGE: the fewest PAIRS, by however much, at whatever PRICE", plain(3));
        e.run("'want 9 b=1&f=0;want 2 b=1&f=1;want 1 a=0&b=2&f=0;want 5 a=1&f=0;make 9 a=0", "town");
        firstIs(1, 2);
    }

    private static void cheapestIs(long price, long many, long lesser, long other) {
        e.keeps("cheapest 0", price);
        e.keeps("cheapest 1", many);
        e.keeps("cheapest 2", lesser);
        e.keeps("cheapest 3", other);
    }

    private static void cheapest() {
        for (String[] scene : new String[][] {{}, Edges.CROWDED}) {
            e.begin("cheapest: NONE", scene);
            e.keepsEach(Edges.NONE, "cheapest -1", "cheapest 4", "cheapest MIN", "cheapest MAX");
        }
        e.begin("CHEAPEST: 0 PAIRS, if none is AMISS");
        cheapestIs(0, 0, Edges.NOT_ANY, Edges.NOT_ANY);
        e.run("person 0 0");
        cheapestIs(0, 0, Edges.NOT_ANY, Edges.NOT_ANY);
        e.begin("CHEAPEST: sets of 0, 1, 2 PAIRS, not of 3", plain(3));
        cheapestIs(Edges.NOT_ANY, Edges.NOT_ANY, Edges.NOT_ANY, Edges.NOT_ANY);
        e.run("friends 0 1 true");
        cheapestIs(2, 2, 1, 2);
        e.run("friends 0 2 true");
        cheapestIs(1, 1, 2, Edges.NOT_ANY);
        e.run("friends 1 2 true");
        cheapestIs(0, 0, Edges.NOT_ANY, Edges.NOT_ANY);
        e.begin("CHEAPEST: none, whatever is changed", plain(2));
        cheapestIs(Edges.NOT_ANY, Edges.NOT_ANY, Edges.NOT_ANY, Edges.NOT_ANY);
        e.begin("CHEAPEST: the last two PAIRS", plain(6));
        e.run("'want 1 f=0&a=3&b=5;want 1 f=0&a=4;want 1 a=3&b=4;make 99 b=5", "town");
        cheapestIs(198, 2, 13, 14);
        e.begin("CHEAPEST: the last PAIR alone", plain(6));
        e.run("'want 1 f=0&a=4;make 99 b<6", "town");
        cheapestIs(99, 1, 14, Edges.NOT_ANY);
    }

    private static void cheapestOfSeveral() {
        // The PAIR 0 wants one in common, or to be FRIENDS: by its own CHANGE, or by those of the two others.
        e.begin("CHEAPEST: the least PRICE, together", plain(3));
        e.run("'want 1 b=1&f=0;make 3 b=1;make 1 b=2", "town");
        cheapestIs(2, 2, 1, 2);
        e.begin("CHEAPEST: of several the one with fewer", plain(3));
        e.run("'want 1 b=1&f=0;make 2 b=1;make 1 b=2", "town");
        cheapestIs(2, 1, 0, Edges.NOT_ANY);
        e.run("'want 1 b=1&f=0;make 0 b=1", "town");
        cheapestIs(0, 1, 0, Edges.NOT_ANY);
        e.run("'want 0 b=1;make 0 b=1", "town");
        cheapestIs(0, 0, Edges.NOT_ANY, Edges.NOT_ANY);
        String[] two = {"person 0 0", "person 0 0", "person 0 0", "friends 0 1 true", "friends 0 2 true"};
        e.begin("CHEAPEST: of several with one the first", two);
        e.run("'want 0 a<9;break 3 a=0", "town");
        cheapestIs(3, 1, 0, Edges.NOT_ANY);
        e.run("'want 0 a<9;break 3 b=1;break 2 b=2", "town");
        cheapestIs(2, 1, 1, Edges.NOT_ANY);
        e.run("'want 0 a<9;break 2 b=1;break 3 b=2", "town");
        cheapestIs(2, 1, 0, Edges.NOT_ANY);
        String[] three = {"person 0 0", "person 0 0", "person 0 0", "friends 0 1 true", "friends 0 2 true", "friends 1 2 true"};
        e.begin("CHEAPEST: of several with two the first by the lesser PAIR, then the other", three);
        e.run("'want 0 a<9;break 2 a<9", "town");
        cheapestIs(4, 2, 0, 1);
        e.run("'want 0 a<9;break 2 b=1|a=0;break 1 a=1", "town");
        cheapestIs(3, 2, 0, 2);
        e.run("'want 0 a<9;break 2 b=1;break 1 b=2", "town");
        cheapestIs(2, 2, 1, 2);
        e.run("'want 0 a<9;break 1 b=1|a=0&b=2;break 2 a=1", "town");
        cheapestIs(2, 2, 0, 1);
        // Once 2 and 3, or 0 and 1 are FRIENDS the PRICES are others.
        e.begin("CHEAPEST: the PRICES as they are now", plain(4));
        e.run("'want 1 f=0&d=0&e=0;make 6 a=0;make 5 a=1;make 1 a=2&d=0;make 50 d>0", "town");
        cheapestIs(7, 2, 0, 5);
        // Once 2 is a FRIEND of 0 or 1, that with the other is dearer.
        e.begin("CHEAPEST: the PRICES as they are now, of PAIRS that have one in common", plain(3));
        e.run("friends 0 1 true", "'make 5 e=0;make 9 e=1;make 30 e=2", "town");
        cheapestIs(10, 2, 1, 2);
        e.begin("CHEAPEST: the greatest PRICE that there is", plain(3));
        e.run("friends 0 1 true", "'" + Edges.most("make"), "town");
        cheapestIs(2 * 792, 2, 1, 2);
        e.begin("CHEAPEST: of several with two the first by the lesser PAIR, whichever the other", plain(4));
        e.run("'want 1 f=0&d=0&e=0;make 2 a<9", "town");
        cheapestIs(4, 2, 0, 5);
        e.begin("CHEAPEST: one to break, one to make, each at its PRICE", plain(3));
        e.run("friends 0 1 true", "'want 1 f=1&b=1;want 1 f=0&a=0&b=2;make 5 a<9;break 7 a<9", "town");
        cheapestIs(12, 2, 0, 1);
        // To break 0 and 1 does, and so does to make the two others.
        e.run("'want 1 f=1;make 4 a<9;break 7 a<9", "town");
        cheapestIs(7, 1, 0, Edges.NOT_ANY);
        e.run("'want 1 f=1;make 3 a<9;break 7 a<9", "town");
        cheapestIs(6, 2, 1, 2);
    }

    private static void complain() {
        for (String[] scene : new String[][] {{"person 0 0"}, Edges.SIX}) {
            int last = scene.length - 1;
            e.begin("complain: n 0 .. 5: what was", scene);
            e.is("complain " + last + " 5", 0);
            e.keeps("of " + last + " 4", 5);
            e.is("complain " + last + " 0", 5);
            e.keeps("of " + last + " 4", 0);
            e.is("complain 0 3", 0);
            e.keeps("complain 0 3", 3);
            e.keepsEach(Edges.BAD, "complain 0 -1", "complain 0 6", "complain " + last + " 6", "complain 0 MIN", "complain 0 MAX");
            e.keepsEach(Edges.NONE, "complain -1 0", "complain " + scene.length + " 0", "complain MIN 0", "complain MAX 0");
            e.begin("complain: NONE ahead of BAD", scene);
            e.keepsEach(Edges.NONE, "complain -1 -1", "complain " + scene.length + " 6");
        }
        e.begin("complain: nobody is there");
        e.keeps("complain 0 0", Edges.NONE);
        e.begin("complain: refused among all that there is", Edges.CROWDED);
        e.keepsEach(Edges.NONE, "complain 5 0", "complain -1 5");
        e.keepsEach(Edges.BAD, "complain 1 6", "complain 1 -1", "complain 3 6");
        e.keeps("complain 1 5", 5);
    }

    private static void tell(int... complaints) {
        for (int i = 0; i < complaints.length; i++) {
            e.run("complain " + i + " " + complaints[i]);
        }
    }

    private static void made() {
        e.begin("WHO MADE IT: 100: it is so already");
        e.keeps("made", 100);
        e.run("person 0 0");
        e.keeps("made", 100);
        e.run("complain 0 1");
        e.keeps("made", Edges.NOT_ANY);
        e.begin("WHO MADE IT: 100: the most that one can complain", plain(6));
        e.keeps("made", Edges.NOT_ANY);
        tell(5, 5, 5, 5, 5, 4);
        e.keeps("made", Edges.NOT_ANY);
        e.run("complain 5 5");
        e.keeps("made", 100);
        // 1, 0, 2, 3 in a row: four PAIRS would be AMISS by one or the other CHANGE, and each complains once.
        e.begin("WHO MADE IT: the first PAIR", plain(4));
        e.run("'want 0 a<9", "town", "friends 0 1 true", "friends 2 3 true");
        e.keeps("made", 100);
        tell(1, 1, 1, 1);
        e.keeps("made", 1);
        e.run("friends 0 1 false", "friends 2 3 false", "friends 0 2 true", "friends 1 3 true");
        e.keeps("made", 0);
        e.begin("WHO MADE IT: by the last PAIR; by one that is broken", plain(6));
        e.run("'want 1 f=1;want 0 f=0", "town");
        tell(0, 0, 0, 0, 1, 1);
        e.keeps("made", 14);
        e.run("friends 4 5 true");
        e.keeps("made", 100);
        tell(0, 0, 0, 0, 0, 0);
        e.keeps("made", 14);
        e.begin("WHO MADE IT: COMPLAINS of each is what is told: of all but one is none", plain(3));
        e.run("friends 0 1 true", "friends 0 2 true", "friends 1 2 true");
        e.keeps("made", 100);
        for (int i = 0; i < 3; i++) {
            e.run("complain " + i + " 5");
            e.keeps("made", Edges.NOT_ANY);
            e.run("complain " + i + " 0");
        }
        // Without one friendship that PAIR has one in common still, the two others none.
        tell(1, 1, 2);
        e.keeps("made", 0);
        tell(1, 2, 1);
        e.keeps("made", 1);
        tell(2, 1, 1);
        e.keeps("made", 2);
    }
}
