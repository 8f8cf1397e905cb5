import java.lang.reflect.Field;
import java.lang.reflect.Modifier;
import java.nio.IntBuffer;
import java.util.ArrayList;
import java.util.HashMap;
import java.util.List;
import java.util.Map;

/** Looks inside objects by reflection, where the public face can't show what a test asks. */
final class Inside {
    private static final Map<Class<?>, List<Field>> FIELDS = new HashMap<>();

    private Inside() {
    }

    static Object of(Object object, String name) {
        try {
            return field(object, name).get(object);
        } catch (IllegalAccessException e) {
            throw new AssertionError(e);
        }
    }

    static void put(Object object, String name, Object value) {
        try {
            field(object, name).set(object, value);
        } catch (IllegalAccessException e) {
            throw new AssertionError(e);
        }
    }

    /** The log of the moves that began, itself: what is added to it is added to the port. */
    @SuppressWarnings("unchecked")
    static List<Object> moves(HarborTides port) {
        return (List<Object>) of(of(port, "log"), "begun");
    }

    /** All that an object holds, one behind the other: equal lists, as long as nothing is changed. */
    static List<Object> all(Object object) {
        List<Object> told = new ArrayList<>();
        tell(object, told);
        return told;
    }

    private static void tell(Object object, List<Object> told) {
        if (object instanceof int[]) {
            told.add(IntBuffer.wrap(((int[]) object).clone()));
        } else if (object instanceof List) {
            told.add(((List<?>) object).size());
            for (Object one : (List<?>) object) {
                tell(one, told);
            }
        } else if (object != null && object.getClass().getName().startsWith("HarborTides")) {
            for (Field field : fields(object.getClass())) {
                tell(of(object, field.getName()), told);
            }
        } else if (object == null || object instanceof Integer || object instanceof Boolean) {
            told.add(object);
        } else {
            throw new AssertionError("no way to tell a " + object.getClass());
        }
    }

    private static Field field(Object object, String name) {
        for (Field field : fields(object.getClass())) {
            if (field.getName().equals(name)) {
                return field;
            }
        }
        throw new AssertionError("no field " + name + " in a " + object.getClass());
    }

    private static List<Field> fields(Class<?> type) {
        return FIELDS.computeIfAbsent(type, Inside::ownFields);
    }

    private static List<Field> ownFields(Class<?> type) {
        List<Field> fields = new ArrayList<>();
        for (Field field : type.getDeclaredFields()) {
            if (!Modifier.isStatic(field.getModifiers())) {
                field.setAccessible(true);
                fields.add(field);
            }
        }
        return fields;
    }
}
