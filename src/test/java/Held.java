import java.lang.reflect.Array;
import java.lang.reflect.Field;
import java.lang.reflect.Modifier;
import java.util.List;

/** All that an object holds, as a text: a call that is refused must leave it as it was, also where no call can look. */
final class Held {
    private Held() {
    }

    static String by(Pegdraw bank) {
        StringBuilder text = new StringBuilder();
        append(text, bank);
        return text.toString();
    }

    private static void append(StringBuilder text, Object one) {
        if (one == null || one instanceof Number || one instanceof Character || one instanceof Boolean) {
            text.append(one).append(' ');
        } else if (one instanceof List<?> list) {
            text.append(list.size()).append(": ");
            list.forEach(element -> append(text, element));
        } else if (one.getClass().isArray()) {
            for (int i = 0; i < Array.getLength(one); i++) {
                append(text, Array.get(one, i));
            }
        } else {
            appendFields(text, one);
        }
    }

    private static void appendFields(StringBuilder text, Object one) {
        for (Field field : one.getClass().getDeclaredFields()) {
            if (!Modifier.isStatic(field.getModifiers())) {
                append(text.append(field.getName()).append(' '), valueOf(field, one));
            }
        }
    }

    private static Object valueOf(Field field, Object one) {
        try {
            field.setAccessible(true);
            return field.get(one);
        } catch (IllegalAccessException e) {
            throw new IllegalStateException(e);
        }
    }
}
