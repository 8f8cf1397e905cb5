import java.lang.reflect.Constructor;
import java.lang.reflect.Field;
import java.lang.reflect.Method;
import java.lang.reflect.Modifier;
import java.util.Set;
import java.util.TreeSet;
import java.util.StringJoiner;

/** The public face: every constructor, constant and method of the document, and no other member that is not private. */
public final class FaceTest {
    private static final String[] METHODS = {
        "int table(int,int) IAS", "int wind(int,int,int) A", "int depth(int) A", "int berth(int,int) IAS",
        "int ship(int,int,int,int) IAS", "int order(int,int) IAS", "int cancel(int) IS", "boolean hasWater(int,int) IA",
        "int state(int) I", "int queue(int) I", "int pass(int) AS", "int swap(int,int) IA", "int rota(int) I",
        "boolean isReady(int) I", "int tugs() ", "int moves() ", "int move(int) I", "boolean isSound(int) I",
        "int paid(int) I", "int earned(int) I", "int tugPay() ", "int port() ", "int lost(int) I", "int claims(int) I",
        "int payClaim(int) IS",
    };

    public static void main(String[] args) throws Exception {
        int modifiers = HarborTides.class.getModifiers();
        Check.due("the class is public and final", Modifier.isPublic(modifiers) && Modifier.isFinal(modifiers), true);
        constants();
        constructors();
        methods();
        fields();
        classesInside();
        sizes(HarborTides.class);
        for (Class<?> inside : HarborTides.class.getDeclaredClasses()) {
            sizes(inside);
        }
        Check.end();
    }

    private static void constants() {
        Check.due("NONE", HarborTides.NONE, -1);
        Check.due("AT_SEA", HarborTides.AT_SEA, 0);
        Check.due("COMING", HarborTides.COMING, 1);
        Check.due("MOORED", HarborTides.MOORED, 2);
        Check.due("GOING", HarborTides.GOING, 3);
        Check.due("GONE", HarborTides.GONE, 4);
    }

    private static void constructors() {
        Constructor<?>[] made = HarborTides.class.getDeclaredConstructors();
        Check.due("constructors", made.length, 1);
        Check.due("the constructor's parameters", made[0].getParameterCount(), 0);
        Check.due("the constructor is public", Modifier.isPublic(made[0].getModifiers()), true);
    }

    private static void methods() {
        Set<String> found = new TreeSet<>();
        Set<String> publicNames = new TreeSet<>();
        for (Method method : HarborTides.class.getDeclaredMethods()) {
            if (!Modifier.isPrivate(method.getModifiers())) {
                found.add(told(method));
                publicNames.add(method.getName());
            }
        }
        Check.due("the methods that are not private", found.toString(), new TreeSet<>(Set.of(METHODS)).toString());
        for (Method method : HarborTides.class.getDeclaredMethods()) {
            if (Modifier.isPrivate(method.getModifiers())) {
                Check.due(method.getName() + " bears a public name", publicNames.contains(method.getName()), false);
            }
        }
    }

    private static String told(Method method) {
        StringJoiner parameters = new StringJoiner(",", "(", ")");
        for (Class<?> type : method.getParameterTypes()) {
            parameters.add(type.getName());
        }
        StringBuilder thrown = new StringBuilder();
        for (Class<?> type : method.getExceptionTypes()) {
            thrown.append(type == IndexOutOfBoundsException.class ? "I" : type == IllegalArgumentException.class ? "A"
                : type == IllegalStateException.class ? "S" : type.getName());
        }
        String more = method.getModifiers() == Modifier.PUBLIC ? "" : " " + Modifier.toString(method.getModifiers());
        return method.getReturnType().getName() + " " + method.getName() + parameters + " " + thrown + more;
    }

    private static void fields() {
        Set<String> found = new TreeSet<>();
        for (Field field : HarborTides.class.getDeclaredFields()) {
            int modifiers = field.getModifiers();
            if (Modifier.isStatic(modifiers)) {
                Check.due("static field " + field.getName() + " is final", Modifier.isFinal(modifiers), true);
            }
            if (!Modifier.isPrivate(modifiers)) {
                found.add(Modifier.toString(modifiers) + " " + field.getType().getName() + " " + field.getName());
            }
        }
        Set<String> want = new TreeSet<>();
        for (String name : new String[] {"NONE", "AT_SEA", "COMING", "MOORED", "GOING", "GONE"}) {
            want.add("public static final int " + name);
        }
        Check.due("the fields that are not private", found.toString(), want.toString());
    }

    private static void classesInside() {
        for (Class<?> inside : HarborTides.class.getDeclaredClasses()) {
            int modifiers = inside.getModifiers();
            boolean hidden = !Modifier.isPublic(modifiers) && !Modifier.isProtected(modifiers);
            Check.due(inside.getName() + " is hidden and static", hidden && Modifier.isStatic(modifiers), true);
        }
        Check.due("some twelve classes at most", HarborTides.class.getDeclaredClasses().length <= 11, true);
    }

    // LANGUAGE.md, rule 11: at most seven parameters, some twenty fields beside the constants.
    private static void sizes(Class<?> type) {
        for (Method method : type.getDeclaredMethods()) {
            Check.due(method.getName() + " has seven parameters at most", method.getParameterCount() <= 7, true);
        }
        for (Constructor<?> made : type.getDeclaredConstructors()) {
            Check.due(type.getName() + "'s constructor has seven parameters at most", made.getParameterCount() <= 7, true);
        }
        int fields = 0;
        for (Field field : type.getDeclaredFields()) {
            fields += Modifier.isStatic(field.getModifiers()) ? 0 : 1;
        }
        Check.due(type.getName() + " has twenty fields at most", fields <= 20, true);
    }
}
