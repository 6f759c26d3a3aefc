import java.lang.reflect.Field;

/** Breaks what a flock holds inside, for promises of states that no call leads to. */
final class Inside {
    private Inside() {
    }

    static void set(BasketFlock flock, String name, int value) {
        try {
            Object state = state(flock);
            field(state, name).setInt(state, value);
        } catch (ReflectiveOperationException renamed) {
            throw new IllegalStateException(renamed);
        }
    }

    static void set(BasketFlock flock, String name, int index, int value) {
        try {
            Object state = state(flock);
            ((int[]) field(state, name).get(state))[index] = value;
        } catch (ReflectiveOperationException renamed) {
            throw new IllegalStateException(renamed);
        }
    }

    private static Object state(BasketFlock flock) throws ReflectiveOperationException {
        return field(flock, "now").get(flock);
    }

    private static Field field(Object owner, String name) throws ReflectiveOperationException {
        Field field = owner.getClass().getDeclaredField(name);
        field.setAccessible(true);
        return field;
    }
}
