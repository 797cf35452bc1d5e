import java.io.IOException;
import java.lang.reflect.Constructor;
import java.lang.reflect.Executable;
import java.lang.reflect.Field;
import java.lang.reflect.Member;
import java.lang.reflect.Method;
import java.lang.reflect.Modifier;
import java.nio.charset.StandardCharsets;
import java.nio.file.Files;
import java.nio.file.Path;
import java.util.ArrayList;
import java.util.HashSet;
import java.util.List;
import java.util.Set;
import java.util.TreeSet;
import java.util.regex.Matcher;
import java.util.regex.Pattern;

/** The rules of LANGUAGE.md that can be seen from the source (its path is the argument) or the compiled class. */
public final class LanguageTest {
    private static final String[] FACE = {"int person(int, int)", "int of(int, int)", "int friends(int, int, boolean)", "int pair(int, int)",
        "int at(int, int)", "int row(int, int, int)", "int feed(int)", "int town()", "int year()", "int told(int)", "int amiss(int)",
        "int alls()", "int first(int)", "int cheapest(int)", "int goes(int)", "int befriends(int, int, int)", "int complain(int, int)",
        "int made()", "int far(int, int)", "int towns(int, int)", "int next(int, int)", "long odds(int)", "long mean(int)",
        "int wish(int, boolean)", "int kept(int)", "int book(int, int)", "int looked()", "int judge(int, int)", "int image()", "int undo()",
        "int act(int, int, int)", "int trace(int)", "int taken(int, int)", "int count(int)", "int tape(int, int, int)",
        "int item(int, int, long)", "long read(int, int)", "int shift(int, int, int, int, int)"};
    private static final String[] CONSTANTS = {"int NONE = -1", "int BAD = -2", "int STATE = -3", "int FULL = -4", "long NO = " + Long.MIN_VALUE};
    private static final Check check = new Check("LanguageTest");

    private LanguageTest() {
    }

    public static void main(String[] args) throws IOException, IllegalAccessException {
        String source = Files.readString(Path.of(args[0]), StandardCharsets.UTF_8);
        face();
        constants();
        classes();
        words(source);
        check.close();
    }

    private static void face() {
        Set<String> face = new TreeSet<>(List.of(FACE));
        Set<String> found = new TreeSet<>();
        check.holds("the class is public and final", Modifier.toString(OneFriend.class.getModifiers()).equals("public final"));
        for (Method method : OneFriend.class.getDeclaredMethods()) {
            int modifiers = method.getModifiers();
            if (Modifier.isPublic(modifiers)) {
                List<String> types = new ArrayList<>();
                for (Class<?> type : method.getParameterTypes()) {
                    types.add(type.getName());
                }
                found.add(method.getReturnType().getName() + " " + method.getName() + "(" + String.join(", ", types) + ")");
                check.holds(method + " is an object's", Modifier.toString(modifiers).equals("public"));
            } else {
                check.holds(method + " is private", Modifier.isPrivate(modifiers));
            }
        }
        check.holds("the face is " + face + ", not " + found, face.equals(found));
        Constructor<?>[] constructors = OneFriend.class.getDeclaredConstructors();
        check.holds("one public constructor of no arguments", constructors.length == 1 && constructors[0].getParameterCount() == 0
            && Modifier.isPublic(constructors[0].getModifiers()));
        check.holds("it is above Object alone", OneFriend.class.getSuperclass() == Object.class && OneFriend.class.getInterfaces().length == 0);
    }

    private static void constants() throws IllegalAccessException {
        Set<String> constants = new TreeSet<>();
        for (Field field : OneFriend.class.getDeclaredFields()) {
            if (Modifier.isPublic(field.getModifiers())) {
                check.holds(field + " is a constant", Modifier.toString(field.getModifiers()).equals("public static final"));
                constants.add(field.getType() + " " + field.getName() + " = " + field.get(null));
            } else {
                check.holds(field + " is private", Modifier.isPrivate(field.getModifiers()));
            }
        }
        check.holds("the constants are not " + constants, constants.equals(new TreeSet<>(List.of(CONSTANTS))));
    }

    private static void classes() {
        List<Class<?>> all = new ArrayList<>(List.of(OneFriend.class.getDeclaredClasses()));
        all.add(OneFriend.class);
        check.holds("twelve classes at most", all.size() <= 12);
        Set<String> names = new HashSet<>();
        for (String call : FACE) {
            names.add(call.substring(call.indexOf(' ') + 1, call.indexOf('(')));
        }
        for (Class<?> one : all) {
            int own = 0;
            for (Field field : one.getDeclaredFields()) {
                boolean isStatic = Modifier.isStatic(field.getModifiers());
                check.holds(field + " is final, if static", !isStatic || Modifier.isFinal(field.getModifiers()));
                own += isStatic ? 0 : 1;
            }
            check.holds(one + " has at most twenty fields", own <= 20);
            List<Member> members = new ArrayList<>(List.of(one.getDeclaredMethods()));
            members.addAll(List.of(one.getDeclaredConstructors()));
            for (Member member : members) {
                check.holds(member + " takes seven at most", ((Executable) member).getParameterCount() <= 7);
                boolean isFace = one == OneFriend.class && Modifier.isPublic(member.getModifiers());
                check.holds(member + " bears no name of the face", isFace || !names.contains(member.getName()));
            }
            if (one != OneFriend.class) {
                check.holds(one + " is static and not public", Modifier.isStatic(one.getModifiers())
                    && !Modifier.isPublic(one.getModifiers()) && !Modifier.isProtected(one.getModifiers()));
                check.due(one + " has no classes inside", 0, one.getDeclaredClasses().length);
            }
        }
    }

    private static void words(String source) {
        check.holds("signs 1 to 127 alone", source.chars().allMatch(c -> c >= 1 && c <= 127));
        String code = source.replaceAll("(?s)/\\*.*?\\*/", " ").replaceAll("//[^\n]*", " ")
            .replaceAll("\"(\\\\.|[^\"\\\\])*\"", "\"\"").replaceAll("'(\\\\.|[^'\\\\])'", "' '");
        for (String word : new String[] {"throw", "throws", "try", "catch", "finally", "synchronized", "assert", "package", "Object",
            "protected", "native", "volatile", "transient", "equals", "hashCode", "getClass", "Random", "Thread", "yield", "var",
            "Exact", "System.out", "System.nanoTime", "System.currentTimeMillis", "System.exit", "NaN", "Class"}) {
            check.holds("no " + word, !Pattern.compile("\\b" + Pattern.quote(word) + "\\b").matcher(code).find());
        }
        for (String sign : new String[] {"->", "::", "@", "Exact(", "import java.util.*", "import static"}) {
            check.holds("no " + sign, !code.contains(sign));
        }
        Matcher imports = Pattern.compile("import ([\\w.]+);").matcher(code);
        while (imports.find()) {
            check.holds("import " + imports.group(1), Set.of("java.util.Arrays", "java.util.ArrayList", "java.util.List").contains(imports.group(1)));
        }
        methodsAreShort(code);
    }

    private static void methodsAreShort(String code) {
        String[] lines = code.split("\n");
        int began = 0;
        for (int i = 0; i < lines.length; i++) {
            if (lines[i].matches(" {4}( {4})?[a-zA-Z].*\\) \\{")) {
                began = i;
            }
            if (lines[i].matches(" {4}( {4})?\\}")) {
                check.holds("the method at line " + (began + 1) + " has sixty lines at most", began == 0 || i - began < 60);
                began = 0;
            }
        }
    }
}
