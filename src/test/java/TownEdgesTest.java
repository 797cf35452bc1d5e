import java.util.ArrayList;
import java.util.List;

/** Promises 8 and 9, and WANTED and PRICE of 6: THE TEXT, what is a TOWN, the FAULT. */
public final class TownEdgesTest {
    private static final String WHOLE = "want 12 (a=1|!b<3)&f=0;make 3 d>10;break 45 e=0|y<9";
    private static final Edges e = new Edges("TownEdgesTest");

    private TownEdgesTest() {
    }

    public static void main(String[] args) {
        feed();
        clauses();
        numbers();
        tests();
        within();
        faults();
        sixTowns();
        faultsLeaveNothing();
        wanted();
        prices();
        e.close();
    }

    private static String repeated(String text, int times) {
        return text.repeat(times);
    }

    private static void feed() {
        e.begin("feed: a sign 0 .. 127");
        e.is("feed 0", 1);
        e.is("feed 127", 2);
        e.keepsEach(Edges.BAD, "feed -1", "feed 128", "feed 256", "feed MIN", "feed MAX");
        e.begin("THE TEXT: bytes, 100 at most");
        for (int i = 1; i <= 100; i++) {
            e.is("feed 97", i);
            e.is("count 4", i);
        }
        e.keepsEach(Edges.FULL, "feed 97", "feed 0", "feed 127");
        e.keepsEach(Edges.BAD, "feed -1", "feed 128");
        e.is("town", -10);
        e.keeps("count 4", 0);
        e.is("feed 97", 1);
        e.begin("THE TEXT is empty behind town(): 100 more");
        e.is("'" + repeated("w", 100), 100);
        e.is("town", -11);
        e.is("'" + repeated("a", 100), 100);
        e.keeps("feed 97", Edges.FULL);
        e.begin("feed: refused among all that there is", Edges.CROWDED);
        e.keepsEach(Edges.BAD, "feed -1", "feed 128");
    }

    /** A text on a new object, and what town() answers. */
    private static void town(String text, int due) {
        e.run("'" + text);
        e.is("town", due);
        e.is("count 4", 0);
        e.is("count 1", due == 0 ? 1 : 0);
    }

    private static void fresh(String sentence, String text, int due) {
        e.begin(sentence + ": " + text);
        town(text, due);
    }

    private static void right(String sentence, String... texts) {
        for (String text : texts) {
            fresh(sentence, text, 0);
        }
    }

    private static void fault(String sentence, String text, int place) {
        fresh(sentence, text, -10 - place);
    }

    private static void clauses() {
        fault("CLAUSES: 1 at least", "", 0);
        String ten = "make 1 a=0";
        right("CLAUSES: 1", ten);
        for (int i = 2; i <= 9; i++) {
            right("CLAUSES: " + i, repeated(ten + ";", i - 1) + ten);
        }
        // A tenth clause would end behind the 100th byte.
        fault("CLAUSES: a tenth may begin", repeated(ten + ";", 9), 99);
        fault("CLAUSES: a tenth may begin", repeated(ten + ";", 9) + "b", 100);
        fault("CLAUSES: with ; between", ten + ten, 10);
        fault("CLAUSES: with ; between", ten + ",", 10);
        fault("CLAUSES: with ; between, none ahead", ";" + ten, 0);
        fault("CLAUSES: with ; between, none behind", ten + ";", 11);
        fault("CLAUSES: with one ; between", ten + ";;" + ten, 11);
        fault("a blank ahead of each part behind the word: none ahead of the word", " " + ten, 0);
        fault("none ahead of the next word", ten + "; " + ten, 11);
        fault("one ahead of n", "want1 a=1", 4);
        fault("one ahead of n, not two", "want  1 a=1", 5);
        fault("one ahead of E", "want 1a=1", 6);
        fault("one ahead of E, not two", "want 1  a=1", 7);
        fault("none within E", "want 1 a =1", 8);
        fault("none within E", "want 1 a= 1", 9);
        fault("none within E", "want 1 a=1 |b=1", 10);
        fault("none within E", "want 1 a=1& b=1", 11);
        fault("none within E", "want 1 ( a=1)", 8);
        fault("none within E", "want 1 ! a=1", 8);
        fault("none behind", "want 1 a=1 ", 10);
        fault("a blank, no other white sign", "want\t1 a=1", 4);
        for (String word : new String[] {"want", "make", "break"}) {
            for (int i = 0; i < word.length(); i++) {
                fault("the words", word.substring(0, i) + "?" + word.substring(i + 1) + " 1 a=1", i);
                fault("the words", word.substring(0, i) + Character.toUpperCase(word.charAt(i)) + word.substring(i + 1) + " 1 a=1", i);
            }
            for (int i = 0; i < word.length(); i++) {
                fault("the words, whole", word.substring(0, i) + " 1 a=1", i);
                fault("the words, whole", word.substring(0, i) + "1 a=1", i);
            }
            fault("the words", word + word + " 1 a=1", word.length());
            right("the words", word + " 1 a=1");
        }
        fault("a word that turns into another", "weak 1 a=1", 1);
        fault("a word that turns into another", "bake 1 a=1", 1);
        fault("a word that turns into another", "mant 1 a=1", 2);
    }

    private static void numbers() {
        right("n: 1 or 2 digits", "want 0 a=1", "want 9 a=1", "want 00 a=1", "want 10 a=1", "want 99 a=1");
        fault("n: 1 digit at least", "want  a=1", 5);
        fault("n: 1 digit at least", "want a=1", 5);
        fault("n: 2 digits at most", "want 100 a=1", 7);
        fault("n: 2 digits at most", "want 000 a=1", 7);
        fault("n: no sign", "want +1 a=1", 5);
        fault("n: no sign", "want -1 a=1", 5);
        fault("n: digits 0 .. 9", "want / a=1", 5);
        fault("n: digits 0 .. 9", "want : a=1", 5);
        fault("n: digits 0 .. 9", "want 1/ a=1", 6);
        fault("n: digits 0 .. 9", "want 1: a=1", 6);
        right("a number: 1 or 2 digits", "want 1 a=0", "want 1 a=9", "want 1 a=00", "want 1 a=10", "want 1 a=99");
        fault("a number: 1 digit at least", "want 1 a=", 9);
        fault("a number: 1 digit at least", "want 1 a=|b=1", 9);
        fault("a number: 2 digits at most", "want 1 a=100", 11);
        fault("a number: 2 digits at most", "want 1 a=000", 11);
        fault("a number: digits 0 .. 9", "want 1 a=/", 9);
        fault("a number: digits 0 .. 9", "want 1 a=:", 9);
        fault("a number: digits 0 .. 9", "want 1 a=1/", 10);
        fault("a number: digits 0 .. 9", "want 1 a=1:", 10);
        for (int n = 0; n <= 99; n++) {
            e.begin("n: 0 .. 99", "person 0 0", "person 0 0", "'want " + n + " a=0", "town");
            e.is("at 0 2", n);
        }
    }

    private static void tests() {
        for (char letter = 32; letter < 127; letter++) {
            boolean isOne = "abfdey".indexOf(letter) >= 0;
            boolean opens = "(!".indexOf(letter) >= 0;
            fresh("a letter: a b f d e y", "want 1 " + letter + "=1", isOne ? 0 : opens ? -18 : -17);
        }
        for (char sign = 32; sign < 127; sign++) {
            fresh("< or = or >", "want 1 a" + sign + "1", "<=>".indexOf(sign) >= 0 ? 0 : -18);
        }
        fault("one sign", "want 1 a<=1", 9);
        fault("one sign", "want 1 a>=1", 9);
        fault("a letter on the left", "want 1 1=a", 7);
        fault("a number on the right", "want 1 a=a", 9);
        right("E: T or T|E; T: F or F&T", "want 1 a=1|a=1", "want 1 a=1&a=1", "want 1 a=1|a=1|a=1&a=1&a=1|a=1", "want 1 a=1&a=1|a=1&a=1");
        fault("E: T on either side", "want 1 |a=1", 7);
        fault("E: T on either side", "want 1 a=1|", 11);
        fault("T: F on either side", "want 1 &a=1", 7);
        fault("T: F on either side", "want 1 a=1&;want", 11);
        fault("F: (E)", "want 1 ()", 8);
        fault("F: (E)", "want 1 (a=1", 11);
        fault("F: (E)", "want 1 a=1)", 10);
        fault("F: !F", "want 1 !", 8);
        fault("F: !F", "want 1 !|a=1", 8);
        fault("F: !F", "want 1 a!=1", 8);
        right("F: !F, (E), or a TEST", "want 1 !a=1", "want 1 (a=1)", "want 1 !(a=1)", "want 1 (!a=1)", "want 1 (a=1|b=1)&(a=2|b=2)");
    }

    /** Some ( and !, by the bits, a test, and what closes the (. */
    private static String nested(int bits, int many) {
        StringBuilder text = new StringBuilder();
        StringBuilder closing = new StringBuilder();
        for (int i = 0; i < many; i++) {
            boolean isNot = (bits >> i & 1) == 1;
            text.append(isNot ? "!" : "(");
            closing.append(isNot ? "" : ")");
        }
        return text.append("a=1").append(closing).toString();
    }

    private static void within() {
        for (int many = 0; many <= 4; many++) {
            for (int bits = 0; bits < 1 << many; bits++) {
                right("( or !, within 3 others at most", "want 1 " + nested(bits, many));
            }
        }
        for (int many = 5; many <= 6; many++) {
            for (int bits = 0; bits < 1 << many; bits++) {
                fault("a ( or ! within 4 others is none", "want 1 " + nested(bits, many), 11);
            }
        }
        right("( or ! beside one another are not within one another", "want 1 !a=1&!a=1&!a=1&!a=1&!a=1&!a=1", "want 1 (a=1)|(a=1)|(a=1)|(a=1)|(a=1)",
            "want 1 ((((a=1))))|((((a=1))))", "want 1 !!!!a=1&!!!!a=1", "want 1 (((!a=1|(a=1)&!b=1)))", "want 1 (!a=1);want 1 (!(!a=1))");
        fault("within 4 others behind others", "want 1 ((((a=1))))|(((((a=1)))))", 23);
        fault("within 4 others behind others", "want 1 !!!!a=1&!!!!!a=1", 19);
        fault("within 4 others behind others", "want 1 (((!a=1|(!a=1))))", 16);
        fault("within 4 others in a later clause", "want 1 ((((a=1))));make 2 !!((!a=1))", 30);
    }

    private static void faults() {
        // Where a test ends, and nothing is open, the text may end, too.
        List<String> ends = List.of("b<3)", "f=0", "d>1", "d>10", "e=0", "y<9");
        List<String> whole = new ArrayList<>();
        for (int length = 0; length <= WHOLE.length(); length++) {
            String text = WHOLE.substring(0, length);
            if (ends.stream().anyMatch(text::endsWith)) {
                whole.add(text);
                right("FAULT: none", text);
            } else {
                fault("FAULT: the end of THE TEXT, if it ends too early", text, length);
            }
        }
        e.answer("texts that end well", ends.size(), whole.size());
        for (int place = 0; place < WHOLE.length(); place++) {
            for (char sign : new char[] {0, 9, '?', 'Z', 127}) {
                fault("FAULT: the first byte with which none begins so", WHOLE.substring(0, place) + sign + WHOLE.substring(place + 1), place);
            }
        }
        fault("FAULT: the first byte behind a TOWN", WHOLE + "?", WHOLE.length());
        fault("FAULT: the first of several", "want 1 ?=?", 7);
        String hundred = "want 1 " + repeated("a=1&", 23) + "a";
        fault("FAULT: the last of 100 bytes", hundred.substring(0, 99) + "&", 99);
        fault("FAULT: the end of 100 bytes", hundred, 100);
        right("a TOWN of 100 bytes", "want 10 " + repeated("a=1|", 22) + "b=10", "want 1 " + repeated("!a=1&", 18) + "a=1");
        e.begin("the longest TOWN", "person 0 0", "person 0 0", "'want 10 " + repeated("a=1|", 22) + "b=01");
        e.keeps("count 4", 100);
        e.is("town", 0);
        e.keeps("at 0 2", 10);
    }

    private static void sixTowns() {
        e.begin("town: 6 at most; the newest holds", "person 0 0", "person 0 0");
        for (int i = 0; i < 6; i++) {
            e.run("'want 2" + i + " a=0");
            e.is("town", i);
            e.keeps("count 1", i + 1);
            e.keeps("at 0 2", 20 + i);
            e.run("'want");
            if (i < 5) {
                e.is("town", -14);
                e.keeps("count 4", 0);
                e.keeps("count 1", i + 1);
                e.keeps("at 0 2", 20 + i);
            }
        }
        e.keeps("town", Edges.FULL);
        e.run("' 9 a=0");
        e.keeps("town", Edges.FULL);
        e.keeps("count 4", 10);
        e.run("'?");
        e.keeps("town", Edges.FULL);
        e.run("'" + repeated("?", 89));
        e.keeps("town", Edges.FULL);
        e.keeps("feed 1", Edges.FULL);
        e.begin("town: FULL ahead of a FAULT, with an empty TEXT", "person 0 0", "person 0 0", "'want 5 a=0", "town", "'want 5 a=0", "town",
            "'want 5 a=0", "town", "'want 5 a=0", "town", "'want 5 a=0", "town");
        e.is("town", -10);
        e.is("'want 6 a=0", 10);
        e.is("town", 5);
        e.keeps("town", Edges.FULL);
        e.begin("town: a FAULT: the one that held holds", "person 0 0", "person 0 0", "'want 7 a=0;make 8 a=0", "town");
        for (String text : new String[] {"'", "'want", "'want 9 a=0;", "'want 9 a=0;make 9 a=?"}) {
            e.run(text);
            e.is("town", -9 - text.length() + (text.endsWith("?") ? 1 : 0));
            e.keeps("at 0 2", 7);
            e.keeps("at 0 3", 8);
            e.keeps("count 1", 1);
        }
        e.begin("town: a FAULT with no TOWN: none holds", "person 0 0", "person 0 0", "'want 9 a=0;", "town");
        e.keeps("at 0 2", 1);
    }

    private static void faultsLeaveNothing() {
        String faulty = "want 7 a<9;make 8 " + repeated("!(a<9)&", 11) + "a?";
        for (int price : new int[] {0, 2}) {
            e.begin("town: a FAULT: nothing of it is left", "person 0 0", "person 0 0");
            for (int i = 0; i < 4; i++) {
                e.is("'" + faulty, 97);
                e.is("town", -10 - 96);
            }
            e.is("at 0 2", 1);
            e.is("at 0 3", 1);
            e.run("'make 2 " + (price == 2 ? "a=0&b=1" : "a=0&b=0"));
            e.is("town", 0);
            e.is("at 0 2", 1);
            e.is("at 0 3", price);
            e.run("friends 0 1 true");
            e.is("at 0 3", 1);
        }
    }

    /** Three people, 0 and 1, 1 and 2 FRIENDS, in a YEAR; WANTED of the three PAIRS: 5, or 2, if E does not hold. */
    private static void holds(int years, String expression, boolean first, boolean second, boolean third) {
        e.begin("TEST, E, T, F: " + expression, "person 0 0", "person 0 0", "person 0 0", "friends 0 1 true", "friends 1 2 true",
            "'want 3 " + expression + ";want 2 a<9", "town");
        e.repeat(years, "year");
        boolean[] so = {first, second, third};
        for (int pair = 0; pair < 3; pair++) {
            e.is("at " + pair + " 2", so[pair] ? 5 : 2);
        }
    }

    private static void wanted() {
        // The pairs are 0 and 1, 0 and 2, 1 and 2.
        int[][] facts = {{0, 0, 1}, {1, 2, 2}, {1, 0, 1}, {1, 1, 2}, {2, 1, 1}};
        for (int i = 0; i < facts.length; i++) {
            char letter = "abfde".charAt(i);
            int[] f = facts[i];
            for (int n = 0; n <= 3; n++) {
                holds(0, letter + "<" + n, f[0] < n, f[1] < n, f[2] < n);
                holds(0, letter + "=" + n, f[0] == n, f[1] == n, f[2] == n);
                holds(0, letter + ">" + n, f[0] > n, f[1] > n, f[2] > n);
            }
        }
        for (int years : new int[] {0, 1, 8, 9, 10, 11, 19, 20, 23}) {
            int y = years % 10;
            for (int n = 0; n <= 11; n++) {
                holds(years, "y=" + n, y == n, y == n, y == n);
                holds(years, "y<" + n, y < n, y < n, y < n);
                holds(years, "y>" + n, y > n, y > n, y > n);
            }
        }
        holds(0, "a<99", true, true, true);
        holds(0, "a>99", false, false, false);
        holds(0, "b=01", true, false, false);
        holds(0, "b=02", false, true, true);
        holds(0, "b=20", false, false, false);
        holds(0, "a=1|b=1&f=0", false, false, true);
        holds(0, "f=0&b=1|a=1", false, false, true);
        holds(0, "(a=1|b=1)&f=0", false, false, false);
        holds(0, "!a=0&b=2", false, false, true);
        holds(0, "!(a=0&b=2)", true, false, true);
        holds(0, "!a=0|b=2", false, true, true);
        holds(0, "!!a=0", true, true, false);
        holds(0, "!!!!a=0", true, true, false);
        holds(0, "a=9|a=9|a=9|b=1", true, false, false);
        holds(0, "a<9&a<9&a<9&b=1", true, false, false);
        holds(0, "b=1|a=9|a=9", true, false, false);
        holds(0, "b=1&a<9&a<9", true, false, false);
        fewAndMany();
    }

    private static void fewAndMany() {
        e.begin("TEST: d and e as far as they go, a and b, too", Edges.SIX);
        for (int other = 1; other <= 5; other++) {
            e.run("friends 0 " + other + " true");
        }
        e.run("'want 3 d=5;want 20 e=1;want 40 b=5", "town");
        e.keeps("at 0 2", 23);
        e.keeps("at 2 2", 20);
        e.keeps("at 10 2", 63);
        e.keeps("at 14 2", 60);
        e.begin("WANTED: 1, if there are no want CLAUSES at all", "person 0 0", "person 0 0");
        e.keeps("at 0 2", 1);
        e.run("'make 7 a=0;break 8 a=0", "town");
        e.keeps("at 0 2", 1);
        e.run("'want 7 a=1", "town");
        e.keeps("at 0 2", 0);
        e.run("'want 0 a=0", "town");
        e.keeps("at 0 2", 0);
        e.run("'want 99 a=0;want 99 b=1;want 99 f=0;want 99 f=1;want 99 a<9;want 99 d=0;want 99 e=0", "town");
        e.keeps("at 0 2", 99 * 6);
        e.run("'" + Edges.most("want"), "town");
        e.keeps("at 0 2", 99 * 8);
    }

    private static void prices() {
        e.begin("PRICE: by all make, if they are not FRIENDS, else by all break", "person 0 0", "person 0 0");
        e.keeps("at 0 3", 1);
        e.run("friends 0 1 true");
        e.keeps("at 0 3", 1);
        e.run("'make 7 a=0;make 20 b=1;make 9 a=1", "town");
        e.keeps("at 0 3", 1);
        e.run("friends 0 1 false");
        e.keeps("at 0 3", 27);
        e.run("'break 3 a=0;break 10 b=1;break 9 b=2", "town");
        e.keeps("at 0 3", 1);
        e.run("friends 0 1 true");
        e.keeps("at 0 3", 13);
        e.run("'make 5 a=3;break 6 a=3", "town");
        e.keeps("at 0 3", 0);
        e.run("friends 0 1 false");
        e.keeps("at 0 3", 0);
        e.run("'want 9 a=0", "town");
        e.keeps("at 0 3", 1);
        e.run("'make 99 a=0;make 99 b=1;break 99 a=0", "town");
        e.keeps("at 0 3", 198);
        e.run("friends 0 1 true");
        e.keeps("at 0 3", 99);
        e.begin("PRICE: the greatest that there is", "person 0 0", "person 0 0", "'" + Edges.most("make"), "town");
        e.keeps("at 0 3", 99 * 8);
        e.run("friends 0 1 true", "'" + Edges.most("break"), "town");
        e.keeps("at 0 3", 99 * 7);
    }
}
