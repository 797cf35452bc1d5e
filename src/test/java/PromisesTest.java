/** For each promise what it says of ordinary calls, of the edges and of wrong calls, worked out by hand. */
public final class PromisesTest {
    private static final int NONE = -1, BAD = -2, STATE = -3, FULL = -4, NOT_ANY = -5, NO_ROOM = -9;
    private static final int NOTHING = -11, CAST = -12, PLACE = -13, SIZE = -14;
    private static final int PERSON = 0, WEIGHTY = 1, SECRET = 2, MOODY = 3, MAYOR = 4, SHY = 5, TOLD = 6;
    private static final long NO = Long.MIN_VALUE;
    private static final int[] WRONG = {-1, Integer.MIN_VALUE, Integer.MAX_VALUE};

    private final Check check = new Check("PromisesTest");
    private OneFriend x;

    public static void main(String[] args) {
        PromisesTest test = new PromisesTest();
        test.people();
        test.counts();
        test.towns();
        test.amiss();
        test.changes();
        test.oddsAndBooks();
        test.imageAndJudge();
        test.acts();
        test.tapes();
        test.check.close();
    }

    private void due(String call, long want, long got) {
        check.due(call, want, got);
    }

    private void fresh(int... kindsAndVs) {
        x = new OneFriend();
        for (int i = 0; i < kindsAndVs.length; i += 2) {
            due("person " + i / 2, i / 2, x.person(kindsAndVs[i], kindsAndVs[i + 1]));
        }
    }

    private void plain(int people) {
        x = new OneFriend();
        for (int i = 0; i < people; i++) {
            x.person(PERSON, 0);
        }
    }

    private void befriend(int... pairs) {
        for (int i = 0; i < pairs.length; i += 2) {
            due("befriend " + pairs[i] + " " + pairs[i + 1], 0, x.friends(pairs[i], pairs[i + 1], true));
        }
    }

    private void feed(String text) {
        for (int i = 0; i < text.length(); i++) {
            x.feed(text.charAt(i));
        }
    }

    private int town(String text) {
        feed(text);
        return x.town();
    }

    private void years(int n) {
        for (int i = 0; i < n; i++) {
            x.year();
        }
    }

    // ---- promises 1 to 7, 10, 11, 35

    private void people() {
        newObject();
        personAndOf();
        friendsAndPairs();
        rows();
        fresh();
        for (int i = 1; i <= 500; i++) {
            due("year", i, x.year());
        }
        due("told 0", 500, x.told(0));
    }

    private void newObject() {
        fresh();
        due("NONE", NONE, OneFriend.NONE);
        due("BAD", BAD, OneFriend.BAD);
        due("STATE", STATE, OneFriend.STATE);
        due("FULL", FULL, OneFriend.FULL);
        due("NO", NO, OneFriend.NO);
        for (int what = 0; what <= 5; what++) {
            due("count of a new one", 0, x.count(what));
        }
        due("count 6", BAD, x.count(6));
        for (int wrong : WRONG) {
            due("count wrong", BAD, x.count(wrong));
            due("told wrong", NONE, x.told(wrong));
        }
        for (int what = 0; what <= 2; what++) {
            due("told of a new one", 0, x.told(what));
            due("amiss of a new one", 0, x.amiss(what));
        }
        due("told 3", NONE, x.told(3));
        due("undo without an image", STATE, x.undo());
        due("read", NO, x.read(0, 0));
        due("trace", NONE, x.trace(0));
    }

    private void personAndOf() {
        fresh(PERSON, 0, WEIGHTY, 9, SECRET, 2, MOODY, 3, MAYOR, 4, SHY, 5);
        due("full", FULL, x.person(TOLD, 6));
        due("kind 7 ahead of full", NONE, x.person(7, 0));
        due("v 10 ahead of full", BAD, x.person(0, 10));
        due("kind ahead of v", NONE, x.person(-1, 10));
        due("v -1", BAD, x.person(0, -1));
        for (int wrong : WRONG) {
            due("kind wrong", NONE, x.person(wrong, 0));
            due("v wrong", BAD, x.person(0, wrong));
            due("of wrong", NONE, x.of(wrong, 0));
            due("of what wrong", NONE, x.of(0, wrong));
        }
        due("count", 6, x.count(0));
        int[] vs = {0, 9, 2, 3, 4, 5};
        for (int i = 0; i < 6; i++) {
            due("of kind", i, x.of(i, 0));
            due("of v", vs[i], x.of(i, 1));
            due("of friends", 0, x.of(i, 2));
            due("of complains", 5, x.of(i, 3));
            due("of told", 0, x.of(i, 4));
        }
        due("of 6", NONE, x.of(6, 0));
        due("of what 5", NONE, x.of(0, 5));
        fresh(TOLD, 9);
        due("of kind TOLD", TOLD, x.of(0, 0));
        due("of 1, not there", NONE, x.of(1, 0));
    }

    private void friendsAndPairs() {
        plain(6);
        int number = 0;
        for (int greater = 1; greater < 6; greater++) {
            for (int lesser = 0; lesser < greater; lesser++) {
                due("pair", number, x.pair(lesser, greater));
                due("pair turned", number, x.pair(greater, lesser));
                due("at lesser", lesser, x.at(number, 4));
                due("at greater", greater, x.at(number, 5));
                due("at friends", 0, x.at(number, 0));
                due("friends", 0, x.friends(greater, lesser, true));
                due("at friends then", 1, x.at(number, 0));
                due("friends were", 1, x.friends(lesser, greater, true));
                due("friends ended", 1, x.friends(lesser, greater, false));
                due("friends were not", 0, x.friends(lesser, greater, false));
                due("at no friends", 0, x.at(number, 0));
                number++;
            }
        }
        due("pairs", 15, x.told(1));
        due("at 15", NONE, x.at(15, 0));
        due("at what 6", NONE, x.at(0, 6));
        due("pair of one", BAD, x.pair(5, 5));
        due("friend of oneself", BAD, x.friends(5, 5, true));
        for (int wrong : WRONG) {
            due("pair wrong", NONE, x.pair(wrong, 0));
            due("pair wrong", NONE, x.pair(0, wrong));
            due("pair of nobody", NONE, x.pair(wrong, wrong));
            due("friends wrong", NONE, x.friends(wrong, 0, true));
            due("friends wrong", NONE, x.friends(0, wrong, true));
            due("friends of nobody", NONE, x.friends(wrong, wrong, true));
            due("at wrong", NONE, x.at(wrong, 0));
            due("at what wrong", NONE, x.at(0, wrong));
        }
        befriend(0, 3, 3, 5, 1, 2);
        due("friends of 3", 1 | 1 << 5, x.of(3, 2));
        due("friends of 5", 1 << 3, x.of(5, 2));
        due("friends of 4", 0, x.of(4, 2));
        due("friendships", 3, x.told(2));
        plain(2);
        due("one pair", 1, x.told(1));
        due("no pair 1", NONE, x.at(1, 0));
        due("no person 2", NONE, x.pair(0, 2));
    }

    private void rows() {
        fresh(PERSON, 0, TOLD, 5, MOODY, 1);
        for (int part = 0; part < 4; part++) {
            due("row was", 0, x.row(1, part, part == 0 ? 3 : part));
            due("row was then", part == 0 ? 3 : part, x.row(1, part, part));
        }
        due("row n 4", BAD, x.row(1, 0, 4));
        due("row n -1", BAD, x.row(1, 0, -1));
        due("row part 4", NONE, x.row(1, 4, 0));
        due("row part -1", NONE, x.row(1, -1, 0));
        due("row part ahead of n", NONE, x.row(1, 4, 4));
        due("row of another kind", STATE, x.row(0, 0, 1));
        due("row of the kind above", STATE, x.row(2, 0, 1));
        due("row n ahead of kind", BAD, x.row(0, 0, 4));
        due("row part ahead of kind", NONE, x.row(0, 4, 0));
        due("row of nobody", NONE, x.row(3, 0, 0));
        for (int wrong : WRONG) {
            due("row of wrong", NONE, x.row(wrong, 0, 0));
            due("row wrong part", NONE, x.row(1, wrong, 0));
            due("row wrong n", BAD, x.row(1, 0, wrong));
        }
    }

    // ---- how the kinds count, promise 6

    private void counts() {
        fresh(PERSON, 0, PERSON, 0, PERSON, 9, WEIGHTY, 4, WEIGHTY, 7);
        befriend(0, 2, 1, 2);
        due("PERSON", 1, x.at(0, 1));
        befriend(0, 3, 1, 3);
        due("WEIGHTY, v even", 2, x.at(0, 1));
        befriend(0, 4, 1, 4);
        due("WEIGHTY, v odd", 4, x.at(0, 1));
        x.friends(0, 4, false);
        due("not a friend of both", 2, x.at(0, 1));

        fresh(PERSON, 0, PERSON, 0, SECRET, 3);
        befriend(0, 2, 1, 2);
        due("SECRET, no friends", 1, x.at(0, 1));
        befriend(0, 1);
        due("SECRET, friends", 0, x.at(0, 1));

        fresh(PERSON, 0, PERSON, 0, MOODY, 1);
        befriend(0, 2, 1, 2);
        int[] byYear = {0, 1, 1, 0, 1, 1, 0, 1};
        for (int year = 0; year < byYear.length; year++) {
            due("MOODY, v 1, year " + year, byYear[year], x.at(0, 1));
            x.year();
        }
        fresh(PERSON, 0, PERSON, 0, MOODY, 0);
        befriend(0, 2, 1, 2);
        due("MOODY, v 0, year 0", 0, x.at(0, 1));
        years(1);
        due("MOODY, v 0, year 1", 1, x.at(0, 1));
        years(1);
        due("MOODY, v 0, year 2", 0, x.at(0, 1));
        mayorShyTold();
    }

    private void mayorShyTold() {
        fresh(PERSON, 0, PERSON, 0, MAYOR, 3);
        befriend(0, 2, 1, 2);
        due("MAYOR of all, odd", 2, x.at(0, 1));
        due("person 3", 3, x.person(PERSON, 0));
        due("MAYOR not of all", 0, x.at(0, 1));
        befriend(2, 3);
        due("MAYOR of all again", 2, x.at(0, 1));
        fresh(PERSON, 0, PERSON, 0, MAYOR, 2);
        befriend(0, 2, 1, 2);
        due("MAYOR of all, even", 1, x.at(0, 1));

        fresh(PERSON, 0, PERSON, 0, SHY, 1, PERSON, 0, PERSON, 0);
        befriend(0, 2, 1, 2, 2, 3);
        due("SHY of three", 1, x.at(0, 1));
        befriend(2, 4);
        due("SHY of four", 0, x.at(0, 1));
        x.friends(2, 4, false);
        befriend(0, 1);
        due("SHY, friends", 0, x.at(0, 1));

        fresh(PERSON, 0, PERSON, 0, TOLD, 1);
        befriend(0, 2, 1, 2);
        int[] told = {2, 0, 3, 1};
        due("TOLD at first", 0, x.at(0, 1));
        for (int part = 0; part < 4; part++) {
            x.row(2, part, told[part]);
        }
        for (int year = 0; year < 9; year++) {
            due("TOLD, year " + year, told[year % 4], x.at(0, 1));
            x.year();
        }
    }

    // ---- promises 8 and 9, WANTED and PRICE of 6

    private void towns() {
        feeding();
        faults();
        wanted();
        sevenTowns();
    }

    private void feeding() {
        fresh();
        due("feed 128", BAD, x.feed(128));
        for (int wrong : WRONG) {
            due("feed wrong", BAD, x.feed(wrong));
        }
        for (int i = 1; i <= 100; i++) {
            due("feed", i, x.feed(i == 1 ? 0 : 127));
            due("bytes", i, x.count(4));
        }
        due("feed full", FULL, x.feed(0));
        due("feed bad ahead of full", BAD, x.feed(-1));
        due("bytes", 100, x.count(4));
        due("a text of no town", -10, x.town());
        due("the text is empty", 0, x.count(4));
        due("no town", 0, x.count(1));
        due("an empty text", -10, x.town());
    }

    private void fault(String text, int place) {
        fresh();
        due("fault of " + text, -10 - place, town(text));
        due("bytes after a fault", 0, x.count(4));
        due("none is a town", 0, x.count(1));
    }

    private void faults() {
        String[] tooEarly = {"", "w", "want", "want ", "want 1", "want 12", "want 1 ", "want 1 a", "want 1 a=", "want 1 a=1;",
            "want 1 a=1&", "want 1 a=1|", "want 1 (", "want 1 !", "want 1 (a=1", "make", "break 3 ", "brea"};
        for (String text : tooEarly) {
            fault(text, text.length());
        }
        fault("x", 0);
        fault("Want 1 a=1", 0);
        fault("wish 1 a=1", 1);
        fault("make1 a=1", 4);
        fault("want  1 a=1", 5);
        fault("want a=1", 5);
        fault("want 123 a=1", 7);
        fault("want -1 a=1", 5);
        fault("want 1 c=1", 7);
        fault("want 1  a=1", 7);
        fault("want 1 a1", 8);
        fault("want 1 a=b", 9);
        fault("want 1 a=100", 11);
        fault("want 1 a=1 ", 10);
        fault("want 1 a=1)", 10);
        fault("want 1 (a=1))", 12);
        fault("want 1 (a=1;", 11);
        fault("want 1 a=1;;", 11);
        fault("want 1 a=1; make 1 a=1", 11);
        fault("want 1 a=1&&b=1", 11);
        fault("want 1 a=1|&b=1", 11);
        fault("want 1 a==1", 9);
        fault("want 1 (((((a=1)))))", 11);
        fault("want 1 !!!!!a=1", 11);
        fault("want 1 !(!(!a=1))", 11);
        fault("want 1 ((((a=1))))&(!(!(a=1|!(b=1))))", 23);
        fault("want 1 ((((a=1))))&!(!(a=1&b=1)|!!a=1)|!(!(!(a=1)))", 43);
    }

    private void wanted() {
        plain(3);
        due("WANTED without a town", 1, x.at(0, 2));
        due("PRICE without a town", 1, x.at(0, 3));
        due("town 0", 0, town("make 7 a=0;make 20 b=1;break 3 a=0"));
        due("WANTED without want", 1, x.at(0, 2));
        due("PRICE to make 0", 27, x.at(0, 3));
        due("PRICE to make 1", 7, x.at(1, 3));
        due("PRICE to make 2", 0, x.at(2, 3));
        befriend(0, 1, 1, 2);
        due("PRICE to break 0", 3, x.at(0, 3));
        due("PRICE to break 2", 0, x.at(2, 3));
        due("town 1", 1, town("want 50 a=9"));
        due("WANTED by none that holds", 0, x.at(0, 2));
        due("PRICE without make", 1, x.at(1, 3));
        due("PRICE without break", 1, x.at(0, 3));
        wantedBy("a=0", 0b011);
        wantedBy("b=2", 0b110);
        wantedBy("b>1", 0b110);
        plain(3);
        befriend(0, 1, 1, 2);
        wantedBy("f=1", 0b101);
        wantedBy("f<1", 0b010);
        wantedBy("d=1", 0b011);
        wantedBy("e>1", 0b001);
        plain(3);
        befriend(0, 1, 1, 2);
        wantedBy("a=1|b=1&f=0", 0b100);
        wantedBy("(a=1|b=1)&f=0", 0b000);
        wantedBy("!a=0&b=2", 0b100);
        plain(3);
        wantedBy("!(a=0&b=2)", 0b101);
        wantedBy("a<10&!!!!a=1", 0b100);
        wantedBy("a=00|((((b=02))))", 0b111);
        plain(3);
        years(12);
        wantedBy("y=2", 0b111);
        wantedBy("y=12", 0);
        wantedBy("y<2", 0);
    }

    /** The pairs whose bits are set are wanted 5, the others 2. */
    private void wantedBy(String expression, int bits) {
        int number = x.count(1);
        due("town " + expression, number, town("want 3 " + expression + ";want 2 a<9"));
        for (int p = 0; p < 3; p++) {
            due(expression + " of " + p, (bits >> p & 1) == 1 ? 5 : 2, x.at(p, 2));
        }
    }

    private void sevenTowns() {
        plain(2);
        for (int i = 0; i < 6; i++) {
            due("town " + i, i, town("want " + (10 + i) + " a=0"));
            due("WANTED of town " + i, 10 + i, x.at(0, 2));
            if (i == 3) {
                due("a fault", -10, town("?"));
                due("the one that held holds", 13, x.at(0, 2));
            }
        }
        due("towns", 6, x.count(1));
        feed("want 1 a=0");
        due("town 6", FULL, x.town());
        due("the text stays", 10, x.count(4));
        x.feed('?');
        due("full ahead of a fault", FULL, x.town());
        due("the text stays", 11, x.count(4));
        due("WANTED still", 15, x.at(0, 2));
        plain(1);
        x.person(PERSON, 0);
        String nine = "make 1 a=0";
        for (int i = 1; i < 9; i++) {
            nine = nine + ";make " + i + " a=0";
        }
        due("nine clauses", 0, town(nine));
        due("nine make", 37, x.at(0, 3));
    }

    // ---- promises 12, 13, 16, 17, 20 to 22, COMPLAINS of 3

    private void amiss() {
        plain(5);
        befriend(0, 1, 0, 2, 1, 2, 0, 3, 0, 4);
        due("amiss bits", 1 << 3 | 1 << 6, x.amiss(0));
        due("amiss many", 2, x.amiss(1));
        due("amiss together", 2, x.amiss(2));
        due("amiss 3", NONE, x.amiss(3));
        due("complains of 0", 2, x.of(0, 3));
        due("complains of 1", 0, x.of(1, 3));
        due("complains of 3", 1, x.of(3, 3));
        due("all's", 1, x.alls());
        x.friends(0, 4, false);
        due("all's of none", 0, x.alls());
        for (int wrong : WRONG) {
            due("amiss wrong", NONE, x.amiss(wrong));
        }
        plain(3);
        befriend(0, 1, 0, 2, 1, 2);
        due("all's of all", 7, x.alls());
        town("want 5 a=0;want 0 a=1");
        due("too few and too many", 4 + 4 + 1, x.amiss(2));
        due("amiss all", 7, x.amiss(0));
        goes();
        befriends();
        farAndTowns();
        next();
    }

    private void goes() {
        plain(5);
        befriend(0, 1, 0, 2, 1, 2, 0, 3, 0, 4);
        due("goes", 3, x.goes(0));
        due("goes many", 1, x.goes(1));
        due("goes 2", NONE, x.goes(2));
        for (int wrong : WRONG) {
            due("goes wrong", NONE, x.goes(wrong));
        }
        due("people stay", 5, x.count(0));
        due("friends stay", 5, x.told(2));
        plain(0);
        due("nobody goes", NOT_ANY, x.goes(0));
        due("nobody goes", NOT_ANY, x.goes(1));
        due("nobody goes 2", NONE, x.goes(2));
        plain(1);
        due("the only one goes", 0, x.goes(0));
        due("none is amiss then", 0, x.goes(1));
        plain(3);
        town("want 0 a=0;want 1 a=1");
        // Without 0 the pair of 1 and 2 is amiss, as it keeps its numbers; without 1 or 2 none is.
        due("numbers are kept", 1, x.goes(0));
        due("none is amiss", 0, x.goes(1));
        fresh(PERSON, 0, PERSON, 0, PERSON, 0, MAYOR, 1);
        befriend(1, 3, 2, 3);
        town("want 2 a=1&b=2");
        // Without 0 the mayor is the friend of all others, and 1 and 2 have two in common.
        due("all others of those there", 0, x.goes(0));
        due("all others of those there", 0, x.goes(1));
        plain(4);
        befriend(0, 1, 0, 2, 0, 3);
        town("want 1 f=0;want 2 d=3");
        // Each of 1, 2, 3 gone, 0 has but two friends, and so nothing is wanted of its pairs.
        due("friends of those there", 1, x.goes(0));
        due("friends of those there", 0, x.goes(1));
    }

    private void befriends() {
        plain(4);
        befriend(0, 1, 0, 2, 1, 2, 0, 3);
        due("befriends", 0b1001, x.befriends(PERSON, 0, 0));
        due("befriends many", 0, x.befriends(PERSON, 0, 1));
        due("people stay", 4, x.count(0));
        due("a TOLD one counts none", 1, x.befriends(TOLD, 0, 1));
        due("befriends kind 7", NONE, x.befriends(7, 10, 0));
        due("befriends what 2", NONE, x.befriends(0, 10, 2));
        due("befriends v 10", BAD, x.befriends(0, 10, 0));
        due("befriends v -1", BAD, x.befriends(0, -1, 0));
        for (int wrong : WRONG) {
            due("befriends wrong kind", NONE, x.befriends(wrong, 0, 0));
            due("befriends wrong v", BAD, x.befriends(0, wrong, 0));
            due("befriends wrong what", NONE, x.befriends(0, 0, wrong));
        }
        plain(0);
        due("befriends nobody", 0, x.befriends(MAYOR, 9, 0));
        due("befriends nobody", 0, x.befriends(MAYOR, 9, 1));
        plain(1);
        due("of several the least set", 0, x.befriends(PERSON, 0, 0));
        due("one is amiss", 1, x.befriends(PERSON, 0, 1));
        town("want 1 f=0");
        due("the set of the only one", 1, x.befriends(PERSON, 0, 0));
        due("none is amiss", 0, x.befriends(PERSON, 0, 1));
        plain(2);
        befriend(0, 1);
        due("a triangle", 3, x.befriends(PERSON, 0, 0));
        due("a triangle", 0, x.befriends(PERSON, 0, 1));
        due("a MAYOR counts two", 1, x.befriends(MAYOR, 1, 1));
        due("a MAYOR counts one", 0, x.befriends(MAYOR, 2, 1));
        plain(6);
        due("no room", NO_ROOM, x.befriends(PERSON, 0, 0));
        due("no room, kind", NONE, x.befriends(-1, 0, 0));
        due("no room, v", BAD, x.befriends(0, 10, 0));
        due("no room, what", NONE, x.befriends(0, 0, 2));
    }

    private void farAndTowns() {
        plain(6);
        befriend(0, 2, 2, 4, 4, 1, 1, 3);
        int[] far = {0, 3, 1, 4, 2, NOT_ANY};
        for (int i = 0; i < 6; i++) {
            due("far " + i, far[i], x.far(0, i));
            due("far from " + i, far[i], x.far(i, 0));
        }
        befriend(3, 5);
        due("far 5", 5, x.far(0, 5));
        due("far of one", 0, x.far(5, 5));
        due("far 6", NONE, x.far(6, 0));
        for (int wrong : WRONG) {
            due("far wrong", NONE, x.far(wrong, 0));
            due("far wrong", NONE, x.far(0, wrong));
            due("far wrong", NONE, x.far(wrong, wrong));
            due("towns wrong", BAD, x.towns(wrong, 0));
            due("towns wrong", BAD, x.towns(2, wrong));
        }
        // Three: 0 in common by none or one friendship; 1 by all. Four: 2 by all; 0 by the 10 matchings.
        int[][] towns = {{2, 0, 0, 0}, {4, 1, 0, 0}, {10, 0, 1, 0}, {26, 15, 0, 1}};
        for (int n = 2; n <= 5; n++) {
            for (int k = 0; k <= 3; k++) {
                due("towns " + n + " " + k, towns[n - 2][k], x.towns(n, k));
            }
        }
        due("towns 1", BAD, x.towns(1, 0));
        due("towns 6", BAD, x.towns(6, 0));
        due("towns by 4", BAD, x.towns(3, 4));
        due("friends stay", 5, x.told(2));
    }

    private void next() {
        fresh(PERSON, 0, PERSON, 0, MOODY, 1);
        befriend(0, 2, 1, 2, 0, 1);
        years(3);
        due("next 0", 0, x.next(0, 0));
        due("next 0 many", 1, x.next(0, 1));
        due("next 1", 1, x.next(1, 0));
        due("next 1 many", 0, x.next(1, 1));
        due("next 60, the first", 1, x.next(60, 0));
        due("the year stays", 3, x.told(0));
        plain(2);
        years(3);
        town("want 1 y<9;want 1 y>8;want 0 y=2");
        due("never", 0, x.next(60, 0));
        town("want 1 y>3|y<3");
        due("now is the best", 0, x.next(60, 0));
        years(1);
        due("in nine years", 9, x.next(9, 0));
        due("not in eight", 0, x.next(8, 0));
        due("one is amiss", 1, x.next(8, 1));
        due("next 61", BAD, x.next(61, 0));
        due("next -1", BAD, x.next(-1, 0));
        due("next what ahead of n", NONE, x.next(61, 2));
        due("next what 2", NONE, x.next(0, 2));
        for (int wrong : WRONG) {
            due("next wrong", BAD, x.next(wrong, 0));
            due("next wrong what", NONE, x.next(0, wrong));
        }
        fresh(PERSON, 0, PERSON, 0, TOLD, 0);
        befriend(0, 2, 1, 2, 0, 1);
        town("want 3 b=1;want 1 b=2");
        x.row(2, 3, 3);
        due("the part of the third year", 3, x.next(60, 0));
        due("none is amiss then", 0, x.next(60, 1));
    }

    // ---- promises 14, 15, 18, 19

    private void changes() {
        plain(5);
        befriend(0, 1, 0, 2, 1, 2, 0, 3, 0, 4);
        due("first", 9, x.first(0));
        due("first many", 0, x.first(1));
        due("first 2", NONE, x.first(2));
        due("friends stay", 5, x.told(2));
        befriend(3, 4);
        due("first of none", NOT_ANY, x.first(0));
        due("first of none", NOT_ANY, x.first(1));
        for (int wrong : WRONG) {
            due("first wrong", NONE, x.first(wrong));
            due("cheapest wrong", NONE, x.cheapest(wrong));
        }
        plain(3);
        town("want 0 f=1;want 1 f=0&a=1;want 1 f=0&b=1");
        due("of several the first", 0, x.first(0));
        due("one less", 1, x.first(1));
        befriend(0, 1);
        // With 0 and 2 friends, too, 1 and 2 have 0 in common.
        due("then another", 1, x.first(0));
        due("none then", 0, x.first(1));
        cheapest();
        made();
    }

    private void cheapestIs(String what, int price, int many, int lesser, int other) {
        due(what + ": price", price, x.cheapest(0));
        due(what + ": many", many, x.cheapest(1));
        due(what + ": lesser", lesser, x.cheapest(2));
        due(what + ": other", other, x.cheapest(3));
    }

    private void cheapest() {
        plain(3);
        due("cheapest 4", NONE, x.cheapest(4));
        cheapestIs("three are too many", NOT_ANY, NOT_ANY, NOT_ANY, NOT_ANY);
        befriend(0, 1);
        cheapestIs("two", 2, 2, 1, 2);
        befriend(0, 2);
        cheapestIs("one", 1, 1, 2, NOT_ANY);
        town("make 7 a=1;make 40 a<9;break 0 a=0");
        cheapestIs("one by a town", 47, 1, 2, NOT_ANY);
        befriend(1, 2);
        cheapestIs("none", 0, 0, NOT_ANY, NOT_ANY);
        plain(3);
        town("want 0 a=0;want 0 a=1;make 5 a=0&b=1;make 3 a=0&b=2;make 9 a=1");
        cheapestIs("none ahead", 0, 0, NOT_ANY, NOT_ANY);
        befriend(0, 1, 0, 2);
        town("want 0 a<9;break 5 b=1;break 3 b=2");
        cheapestIs("the cheaper", 3, 1, 1, NOT_ANY);
        town("want 0 a<9;break 3 b=1;break 3 b=2");
        cheapestIs("the first", 3, 1, 0, NOT_ANY);
        town("want 0 a<9;break 0 b=1;break 0 b=2;make 0 a=1");
        cheapestIs("the fewer", 0, 1, 0, NOT_ANY);
        befriend(1, 2);
        town("want 0 a<9;break 4 a=0&b=1;break 2 a=0&b=2;break 2 a=1");
        cheapestIs("two cheaper ones", 4, 2, 1, 2);
        town("want 0 a<9;break 2 b<3");
        cheapestIs("the first two", 4, 2, 0, 1);
        plain(4);
        // All are right in two couples: as they are now 0 and 1, 2 and 3 are the cheapest.
        town("want 1 f=0&d=0&e=0;make 6 a=0;make 5 a=1;make 1 a=2&d=0;make 50 d>0");
        cheapestIs("prices as they are now", 7, 2, 0, 5);
        due("friends stay", 0, x.told(2));
    }

    private void made() {
        plain(4);
        due("made, as told", -5, x.made());
        befriend(0, 1, 0, 2, 1, 2);
        // 0, 1, 2 have each one in common; 3 has none with any: each pair of 3 is amiss.
        int[] now = {1, 1, 1, 3};
        for (int i = 0; i < 4; i++) {
            due("complain was", 0, x.complain(i, now[i]));
            due("of what is told", now[i], x.of(i, 4));
        }
        due("it is so already", 100, x.made());
        due("complain was", 1, x.complain(0, 3));
        due("made by nobody", NOT_ANY, x.made());
        // Without 1 and 2 being friends: 01 and 02 have none, 12 has 0.
        x.complain(1, 2);
        x.complain(2, 2);
        due("made by the third", 2, x.made());
        // Without 0 and 1 being friends: 01 has 2, 02 and 12 have none: five are amiss.
        x.complain(0, 2);
        x.complain(1, 2);
        x.complain(2, 3);
        x.complain(3, 3);
        due("made by the first", 0, x.made());
        due("friends stay", 3, x.told(2));
        due("complain 6", BAD, x.complain(0, 6));
        due("complain -1", BAD, x.complain(0, -1));
        due("complain of nobody", NONE, x.complain(4, 6));
        for (int wrong : WRONG) {
            due("complain wrong", NONE, x.complain(wrong, 0));
            due("complain wrong n", BAD, x.complain(0, wrong));
        }
        due("complain 5", 2, x.complain(0, 5));
        due("complain 0", 5, x.complain(0, 0));
        plain(0);
        due("nobody: it is so", 100, x.made());
    }

    // ---- promises 23 to 28

    private void oddsAndBooks() {
        plain(3);
        due("odds of none", NO, x.odds(0));
        due("odds of none", NO, x.odds(1));
        befriend(0, 1);
        due("odds 0", 0, x.odds(0));
        due("odds below", 1, x.odds(1));
        town("want 0 a<9");
        due("odds 1", 1, x.odds(0));
        due("odds 1 below", 1, x.odds(1));
        befriend(0, 2);
        due("odds 2/2", 1, x.odds(0));
        due("odds 2/2 below", 1, x.odds(1));
        due("odds part 2", NO, x.odds(2));
        plain(5);
        befriend(0, 1, 0, 2, 3, 4, 1, 4);
        town("want 0 a<9");
        // 1 and 2 share 0, 0 and 4 share 1, 1 and 3 share 4: only with 01 and 14 gone is all right, so none.
        due("odds 0/4", 0, x.odds(0));
        due("odds 0/4 below", 1, x.odds(1));
        plain(5);
        befriend(0, 1, 0, 2, 3, 4);
        town("want 0 a<9");
        due("odds 2/3", 2, x.odds(0));
        due("odds 2/3 below", 3, x.odds(1));
        plain(6);
        befriend(0, 1, 0, 2, 3, 4);
        town("want 0 b<3;want 0 b=5");
        befriend(3, 5);
        due("odds with two amiss", 0, x.odds(0));
        x.friends(3, 4, false);
        x.friends(3, 5, false);
        befriend(3, 4, 1, 5, 2, 4);
        due("friendships stay", 5, x.told(2));
        for (int wrong : WRONG) {
            due("odds wrong", NO, x.odds(wrong));
            due("mean wrong", NO, x.mean(wrong));
        }
        mean();
        wishes();
        book();
    }

    private void mean() {
        plain(1);
        due("mean of none", NO, x.mean(0));
        due("mean of none", NO, x.mean(1));
        plain(4);
        due("mean 0", 0, x.mean(0));
        due("mean 0 below", 1, x.mean(1));
        befriend(0, 1, 0, 2);
        due("mean 1/6", 1, x.mean(0));
        due("mean 1/6 below", 6, x.mean(1));
        befriend(1, 2, 3, 0);
        // 01, 02, 12 one each; 13 and 23 one each, by 0: five of six.
        due("mean 5/6", 5, x.mean(0));
        due("mean 5/6 below", 6, x.mean(1));
        due("mean part 2", NO, x.mean(2));
        befriend(1, 3, 2, 3);
        due("mean 12/6", 2, x.mean(0));
        due("mean 12/6 below", 1, x.mean(1));
        fresh(PERSON, 0, PERSON, 0, WEIGHTY, 1, PERSON, 0);
        befriend(0, 2, 1, 2, 3, 2);
        due("mean 6/6", 1, x.mean(0));
        x.friends(3, 2, false);
        due("mean 2/6", 1, x.mean(0));
        due("mean 2/6 below", 3, x.mean(1));
    }

    private void wishes() {
        plain(3);
        befriend(0, 1);
        due("kept of none", 0, x.kept(0));
        due("kept of none", 0, x.kept(1));
        due("wish 1", 1, x.wish(0, true));
        due("wish 2", 2, x.wish(1, false));
        due("kept both", 2, x.kept(0));
        due("kept price", 0, x.kept(1));
        town("make 20 a=0;make 4 a=1;break 3 a=0");
        due("wish 3", 3, x.wish(1, true));
        due("wish 4", 4, x.wish(1, true));
        due("wish 5", 5, x.wish(0, false));
        due("wish of no pair", NONE, x.wish(3, true));
        due("wish 6", 6, x.wish(2, true));
        due("kept", 2, x.kept(0));
        due("kept price, as often as told", 20 + 20 + 3 + 4, x.kept(1));
        due("wish full", FULL, x.wish(0, true));
        due("wish none ahead of full", NONE, x.wish(3, true));
        due("wishes", 6, x.count(2));
        due("kept 2", NONE, x.kept(2));
        for (int wrong : new int[] {-2, Integer.MIN_VALUE, Integer.MAX_VALUE}) {
            due("wish wrong", NONE, x.wish(wrong, true));
            due("kept wrong", NONE, x.kept(wrong));
        }
        due("wish -1", 0, x.wish(-1, true));
        due("wishes", 0, x.count(2));
        due("wish 1 again", 1, x.wish(0, false));
        due("wish -1", 0, x.wish(-1, false));
        due("kept", 0, x.kept(0));
    }

    private void book() {
        plain(3);
        befriend(0, 1, 0, 2);
        due("looked at nothing", NOT_ANY, x.looked());
        due("book 1", 1, x.book(2, 1));
        due("book 2", 2, x.book(0, 0));
        due("looked, all so", NOT_ANY, x.looked());
        due("book 3", 3, x.book(1, 2));
        due("book 4", 4, x.book(0, 1));
        due("looked, the row", 2, x.looked());
        befriend(1, 2);
        due("looked, another row", 1, x.looked());
        due("book n 100", BAD, x.book(0, 100));
        due("book n -1", BAD, x.book(0, -1));
        due("book pair ahead of n", NONE, x.book(3, 100));
        for (int i = 5; i <= 12; i++) {
            due("book", i, x.book(0, 99));
        }
        due("book full", FULL, x.book(0, 0));
        due("book n ahead of full", BAD, x.book(0, 100));
        due("book pair ahead of full", NONE, x.book(3, 0));
        due("rows", 12, x.count(3));
        for (int wrong : new int[] {-2, Integer.MIN_VALUE, Integer.MAX_VALUE}) {
            due("book wrong", NONE, x.book(wrong, 0));
            due("book wrong n", BAD, x.book(0, wrong));
        }
        due("book -1", 0, x.book(-1, 100));
        due("rows", 0, x.count(3));
        due("looked at nothing", NOT_ANY, x.looked());
        due("book 1 again", 1, x.book(0, 7));
        due("looked, the first row", 0, x.looked());
    }

    // ---- promises 29 to 31

    private void imageAndJudge() {
        plain(0);
        due("image of nobody", 0, x.image());
        fillVillage();
        due("undo to nobody", 0, x.undo());
        due("people", 0, x.count(0));
        due("wishes", 0, x.count(2));
        due("rows", 0, x.count(3));
        due("year", 0, x.told(0));
        due("towns stay", 1, x.count(1));
        due("text stays", 1, x.count(4));
        due("tapes stay", 4, x.read(0, 0));
        due("trace stays", 1, x.count(5));
        due("person again", 0, x.person(TOLD, 0));
        due("person again", 1, x.person(PERSON, 0));
        due("person again", 2, x.person(PERSON, 0));
        due("no friends", 0, x.told(2));
        due("no complaints", 0, x.of(0, 4));
        due("no row", 0, x.row(0, 1, 0));
        due("no town holds", 1, x.at(0, 2));
        due("the text that stayed", 1, town("ant 3 a=0"));
        due("the new one holds", 3, x.at(0, 2));
        keepsAll();
        judge();
    }

    private void fillVillage() {
        x.person(TOLD, 4);
        x.person(PERSON, 5);
        x.person(WEIGHTY, 6);
        befriend(0, 1, 1, 2);
        x.row(0, 1, 3);
        x.complain(0, 2);
        x.wish(0, true);
        x.book(1, 1);
        x.year();
        town("want 44 a=0");
        x.feed('w');
        x.tape(0, 3, 2);
        x.item(0, 0, 4);
        x.act(1, 0, 1);
    }

    private void keepsAll() {
        plain(0);
        fillVillage();
        due("image", 3, x.image());
        for (int i = 0; i < 2; i++) {
            due("person 3", 3, x.person(PERSON, 1));
            befriend(0, 2, 0, 3);
            x.friends(0, 1, false);
            x.row(0, 1, 1);
            x.complain(0, 4);
            x.wish(-1, true);
            x.wish(1, false);
            x.wish(1, false);
            x.book(-1, 0);
            x.book(2, 2);
            x.book(2, 2);
            x.year();
            town("?");
            town("want 55 a=0");
            due("undo", 3, x.undo());
            due("people", 3, x.count(0));
            due("v", 4, x.of(0, 1));
            due("friends of 0", 2, x.of(0, 2));
            due("friends of 1", 5, x.of(1, 2));
            due("friends of 2", 2, x.of(2, 2));
            due("row", 3, x.row(0, 1, 3));
            due("complaint", 2, x.of(0, 4));
            due("wishes", 1, x.count(2));
            due("wish kept", 1, x.kept(0));
            due("rows of the book", 1, x.count(3));
            due("looked", NOT_ANY, x.looked());
            due("year", 1, x.told(0));
            due("the town that held", 44, x.at(0, 2));
            due("towns", 2 + i, x.count(1));
        }
        due("image again", 3, x.image());
        x.year();
        x.image();
        x.year();
        x.undo();
        due("the newest image", 2, x.told(0));
    }

    private void judge() {
        plain(0);
        due("judge nobody", NOT_ANY, x.judge(0, 0));
        due("judge nobody from -1", NOT_ANY, x.judge(0, -1));
        due("judge tape 6", NONE, x.judge(6, 0));
        x.tape(0, 0, 3);
        due("judge nobody by bytes", CAST, x.judge(0, 0));
        plain(3);
        befriend(0, 2);
        due("judge by nothing", 100, x.judge(1, 0));
        for (int sort = 0; sort < 4; sort++) {
            x.tape(1, sort, 3);
            due("judge by sort " + sort, CAST, x.judge(1, 0));
        }
        x.tape(1, 4, 5);
        due("judge: pair 1 is otherwise", 1, x.judge(1, 0));
        x.item(1, 1, 9);
        due("judge: all so", NOT_ANY, x.judge(1, 0));
        due("judge from 1", 0, x.judge(1, 1));
        x.item(1, 1, 0);
        x.item(1, 3, -1);
        due("judge from 2", NOT_ANY, x.judge(1, 2));
        due("judge from 3", 0, x.judge(1, 3));
        x.item(1, 3, 0);
        x.item(1, 4, 1);
        due("judge from 3, two looked at", 102, x.judge(1, 3));
        due("judge from 4", 0, x.judge(1, 4));
        x.item(1, 4, 0);
        due("judge from 4, one looked at", 101, x.judge(1, 4));
        due("judge from the end", 100, x.judge(1, 5));
        for (int wrong : WRONG) {
            due("judge from wrong", 100, x.judge(1, wrong));
            due("judge wrong tape", NONE, x.judge(wrong, 0));
        }
        x.tape(1, -1, 0);
        due("judge by nothing again", 100, x.judge(1, 0));
    }

    // ---- promises 32 to 34

    private void actIs(int person, int act, int n, int want, int... bodies) {
        String call = "act " + person + " " + act + " " + n;
        due(call, want, x.act(person, act, n));
        due(call + " ran", bodies.length, x.count(5));
        for (int i = 0; i < bodies.length; i++) {
            due(call + " trace " + i, bodies[i], x.trace(i));
        }
        due(call + " trace end", NONE, x.trace(bodies.length));
        for (int wrong : WRONG) {
            due(call + " trace wrong", NONE, x.trace(wrong));
        }
    }

    private void acts() {
        fresh(PERSON, 3, WEIGHTY, 4, SECRET, 5, MOODY, 6, MAYOR, 7, SHY, 8);
        actIs(0, 0, 10, 10, 10);
        actIs(0, 1, 10, 7, 11, 10);
        actIs(0, 2, 10, 14, 12, 11, 10);
        actIs(1, 0, 10, 11, 10);
        actIs(1, 1, 10, 7 ^ 6, 20, 11, 10);
        actIs(1, 2, 10, 2, 12, 20, 11, 10);
        actIs(2, 0, 10, 32, 30, 10);
        actIs(2, 1, 10, 27, 11, 30, 10);
        actIs(2, 2, 10, 54, 12, 11, 30, 10);
        actIs(3, 0, 10, 13, 10);
        actIs(3, 1, 10, 7, 11, 10);
        actIs(3, 2, 10, 14 - 2, 40, 12, 11, 10, 11, 10);
        actIs(4, 0, 10, -14, 50, 10);
        actIs(4, 1, 10, -22 ^ 6, 51, 20, 11, 50, 10);
        actIs(4, 2, 10, (-22 ^ 6) * 2, 12, 51, 20, 11, 50, 10);
        actIs(5, 0, 10, 35, 30, 10);
        actIs(5, 1, 10, 27, 11, 30, 10);
        actIs(5, 2, 10, (15 + 5 - 8) * 2, 60, 12, 11, 30, 10);
        actIs(0, 0, Integer.MAX_VALUE, Integer.MAX_VALUE, 10);
        actIs(1, 0, Integer.MAX_VALUE, Integer.MIN_VALUE, 10);
        actIs(0, 3, 10, 0);
        actIs(0, 0, 1, 1, 10);
        actIs(6, 0, 10, 0);
        for (int wrong : WRONG) {
            actIs(0, 0, 1, 1, 10);
            actIs(wrong, 0, 1, 0);
            actIs(0, 0, 1, 1, 10);
            actIs(0, wrong, 1, 0);
        }
        fresh(PERSON, 0, TOLD, 9);
        // meets(10): 11 ^ 9; counts(10): that - 9, and 2 + 1; tells(10): twice that, and counts(1): (2 ^ 9) - 9 + 3.
        actIs(1, 0, 10, 2, 71, 10);
        actIs(1, 1, 10, -4, 70, 11, 71, 10, 10);
        actIs(1, 2, 10, -8 + 5, 40, 12, 70, 11, 71, 10, 10, 70, 11, 71, 10, 10);
        taken();
    }

    private void taken() {
        int[] above = {-1, PERSON, PERSON, PERSON, WEIGHTY, SECRET, MOODY};
        for (int kind = PERSON; kind <= TOLD; kind++) {
            fresh(kind, 0);
            for (int k = PERSON; k <= TOLD; k++) {
                boolean isOne = k == PERSON || k == kind || k == above[kind];
                due("taken " + kind + " for " + k, isOne ? kind : CAST, x.taken(0, k));
            }
        }
        due("taken for 7", BAD, x.taken(0, 7));
        due("taken nobody", NOTHING, x.taken(1, 0));
        due("taken bad ahead of nobody", BAD, x.taken(1, 7));
        for (int wrong : WRONG) {
            due("taken for wrong", BAD, x.taken(0, wrong));
            due("taken wrong", NOTHING, x.taken(wrong, 0));
        }
    }

    // ---- promises 36 to 39

    private void tapes() {
        fresh();
        for (int tape = 0; tape < 6; tape++) {
            due("item of nothing", NOTHING, x.item(tape, 0, 1));
            due("read of nothing", NO, x.read(tape, 0));
            due("tape", 1, x.tape(tape, 3, 60));
            due("read", 0, x.read(tape, 59));
            due("read 60", NO, x.read(tape, 60));
            due("tape of none", 1, x.tape(tape, 2, 0));
            due("read of none", NO, x.read(tape, 0));
            due("item of none", PLACE, x.item(tape, 0, 0));
            due("tape of nothing", 1, x.tape(tape, -1, -5));
            due("item of nothing", NOTHING, x.item(tape, 0, 0));
        }
        due("tape n 61", BAD, x.tape(0, 0, 61));
        due("tape n -1", SIZE, x.tape(0, 0, -1));
        due("tape sort 5", BAD, x.tape(0, 5, -1));
        due("tape sort -2", BAD, x.tape(0, -2, 1));
        due("tape 6", NONE, x.tape(6, 9, -1));
        due("nothing is there still", NOTHING, x.item(0, 0, 0));
        for (int wrong : WRONG) {
            due("tape wrong", NONE, x.tape(wrong, 0, 1));
            due("tape wrong, nothing", NONE, x.tape(wrong, -1, 1));
            due("item wrong tape", NONE, x.item(wrong, 0, 1));
            due("read wrong tape", NO, x.read(wrong, 0));
            due("nothing, whatever n", 1, x.tape(1, -1, wrong));
        }
        due("tape wrong n", BAD, x.tape(0, 0, Integer.MAX_VALUE));
        due("tape wrong n", SIZE, x.tape(0, 0, Integer.MIN_VALUE));
        due("tape wrong sort", BAD, x.tape(0, Integer.MAX_VALUE, 0));
        due("tape wrong sort", BAD, x.tape(0, Integer.MIN_VALUE, 0));
        items();
        shifts();
    }

    private void items() {
        fresh();
        long v = 0x123456789ABCDEF0L;
        long[] kept = {(byte) 0xF0, (short) 0xDEF0, 0x9ABCDEF0, v, 1};
        long[] ofMinimum = {0, 0, 0, Long.MIN_VALUE, 1};
        long[] of255 = {-1, 255, 255, 255, 1};
        for (int sort = 0; sort <= 4; sort++) {
            due("tape", 1, x.tape(5, sort, 3));
            due("item", 1, x.item(5, 2, v));
            due("read", kept[sort], x.read(5, 2));
            due("read of another", 0, x.read(5, 1));
            x.item(5, 2, Long.MIN_VALUE);
            due("read minimum", ofMinimum[sort], x.read(5, 2));
            x.item(5, 0, 255);
            due("read 255", of255[sort], x.read(5, 0));
            x.item(5, 0, 0);
            due("read 0", 0, x.read(5, 0));
            due("item 3", PLACE, x.item(5, 3, 1));
            due("read 3", NO, x.read(5, 3));
            for (int wrong : WRONG) {
                due("item wrong", PLACE, x.item(5, wrong, 1));
                due("read wrong", NO, x.read(5, wrong));
            }
        }
        x.item(5, 1, 1);
        due("tape anew", 1, x.tape(5, 4, 3));
        due("all 0", 0, x.read(5, 1));
        due("tape 5 ahead of 6", NONE, x.item(6, 0, 0));
        due("read of 6", NO, x.read(6, 0));
    }

    private void isRow(int tape, long... row) {
        for (int i = 0; i < row.length; i++) {
            due("row of " + tape + " at " + i, row[i], x.read(tape, i));
        }
    }

    private void shifts() {
        fresh();
        x.tape(0, 2, 5);
        x.tape(1, 2, 3);
        x.tape(2, 3, 5);
        for (int i = 0; i < 5; i++) {
            x.item(0, i, i + 1);
        }
        due("shift up", 4, x.shift(0, 0, 0, 1, 4));
        isRow(0, 1, 1, 2, 3, 4);
        due("shift down", 3, x.shift(0, 2, 0, 0, 3));
        isRow(0, 2, 3, 4, 3, 4);
        due("shift to another", 2, x.shift(0, 1, 1, 1, 2));
        isRow(1, 0, 3, 4);
        isRow(0, 2, 3, 4, 3, 4);
        due("shift none", 0, x.shift(0, 5, 1, 3, 0));
        due("shift all", 3, x.shift(1, 0, 0, 2, 3));
        isRow(0, 2, 3, 0, 3, 4);
        due("beyond the one", PLACE, x.shift(1, 1, 0, 0, 3));
        due("beyond the other", PLACE, x.shift(0, 0, 1, 1, 3));
        due("beyond the one by none", PLACE, x.shift(0, 6, 1, 0, 0));
        due("beyond the other by none", PLACE, x.shift(0, 0, 1, 4, 0));
        due("n -1", PLACE, x.shift(0, 1, 1, 1, -1));
        due("i -1", PLACE, x.shift(0, -1, 1, 0, 1));
        due("j -1", PLACE, x.shift(0, 0, 1, -1, 1));
        for (int wrong : WRONG) {
            due("shift wrong", PLACE, x.shift(0, wrong, 1, 0, 1));
            due("shift wrong", PLACE, x.shift(0, 0, 1, wrong, 1));
            due("shift wrong", PLACE, x.shift(0, 1, 1, 1, wrong));
            due("shift wrong tape", NONE, x.shift(wrong, 0, 4, 0, 1));
            due("shift wrong other", NONE, x.shift(4, 0, wrong, 0, 1));
        }
        due("unlike sorts", CAST, x.shift(0, 0, 2, 0, 1));
        due("unlike sorts ahead of a place", CAST, x.shift(0, -1, 2, 0, 1));
        due("nothing there", NOTHING, x.shift(0, 0, 4, 0, 1));
        due("nothing here", NOTHING, x.shift(4, 0, 0, 0, 1));
        due("nothing either way", NOTHING, x.shift(4, -1, 3, 0, 0));
        due("tape 6", NONE, x.shift(6, 0, 0, 0, 0));
        due("other 6", NONE, x.shift(0, 0, 6, 0, 0));
        isRow(0, 2, 3, 0, 3, 4);
        isRow(1, 0, 3, 4);
    }
}
