import java.lang.reflect.Array;
import java.lang.reflect.Field;

/** Sets a field inside a bank by its path, for states that no call brings about. */
final class Inside {
    private Inside() {
    }

    static void set(Object from, String path, Object value) throws ReflectiveOperationException {
        String[] steps = path.split("\\.");
        Object at = from;
        for (int i = 0; i < steps.length - 1; i++) {
            at = at.getClass().isArray() ? Array.get(at, Integer.parseInt(steps[i])) : field(at, steps[i]).get(at);
        }
        field(at, steps[steps.length - 1]).set(at, value);
    }

    private static Field field(Object of, String name) throws ReflectiveOperationException {
        Field field = of.getClass().getDeclaredField(name);
        field.setAccessible(true);
        return field;
    }
}
