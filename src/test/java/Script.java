import java.lang.reflect.InvocationTargetException;
import java.lang.reflect.Method;
import java.lang.reflect.Modifier;
import java.util.HashMap;
import java.util.Map;

/** One object, called by texts: "person 0 3", "friends 0 1 true", "act 0 0 MAX"; "'want 1 a=0" feeds all signs behind the '. */
final class Script {
    /** Nothing is promised of later calls, so a test that makes more is wrong itself. */
    private static final int MOST_CALLS = 512;
    private static final Map<String, Method> FACE = face();

    private final OneFriend x = new OneFriend();
    private int calls;

    private static Map<String, Method> face() {
        Map<String, Method> face = new HashMap<>();
        for (Method method : OneFriend.class.getDeclaredMethods()) {
            if (Modifier.isPublic(method.getModifiers())) {
                face.put(method.getName(), method);
            }
        }
        return face;
    }

    long call(String text) {
        if (text.startsWith("'")) {
            long many = 0;
            for (char sign : text.substring(1).toCharArray()) {
                count(text);
                many = x.feed(sign);
            }
            return many;
        }
        count(text);
        String[] words = text.split(" ");
        Method method = FACE.get(words[0]);
        Object[] values = new Object[words.length - 1];
        for (int i = 0; i < values.length; i++) {
            values[i] = value(method.getParameterTypes()[i], words[i + 1]);
        }
        try {
            return ((Number) method.invoke(x, values)).longValue();
        } catch (InvocationTargetException | IllegalAccessException e) {
            throw new IllegalStateException(text + " threw", e.getCause());
        }
    }

    private void count(String text) {
        calls++;
        if (calls > MOST_CALLS) {
            throw new IllegalStateException("the test makes more than 512 calls, at " + text);
        }
    }

    private static Object value(Class<?> type, String word) {
        if (type == boolean.class) {
            return Boolean.valueOf(word);
        }
        if (type == long.class) {
            return word.equals("MAX") ? Long.MAX_VALUE : word.equals("MIN") ? Long.MIN_VALUE : Long.parseLong(word);
        }
        return word.equals("MAX") ? Integer.MAX_VALUE : word.equals("MIN") ? Integer.MIN_VALUE : Integer.parseInt(word);
    }
}
