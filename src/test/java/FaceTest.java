import java.lang.reflect.Constructor;
import java.lang.reflect.Field;
import java.lang.reflect.Method;
import java.lang.reflect.Modifier;
import java.util.Set;
import java.util.TreeSet;

/** The public face is that of the document, and nothing else stands open. */
public final class FaceTest {
    private static final Set<String> METHODS = Set.of(
        "device(int,int)", "call(int,int,int,int)", "every(int,int,int)", "feed(int,int)", "link(int,int)",
        "pass(int,int)", "able(int,int)", "chain(int)", "ran()", "state(int,int)", "size(int)", "status()");

    private static String told(Method method) {
        StringBuilder told = new StringBuilder(method.getName()).append('(');
        for (Class<?> type : method.getParameterTypes()) {
            told.append(told.charAt(told.length() - 1) == '(' ? "" : ",").append(type.getName());
        }
        return told.append(')').toString();
    }

    private static void same(String what, Object got, Object want) {
        Due.is(what + " is " + got + ": that it is " + want, got.equals(want) ? 1 : 0, 1);
    }

    private static void methods() {
        Set<String> open = new TreeSet<>();
        Set<String> openNames = new TreeSet<>();
        Set<String> closedNames = new TreeSet<>();
        for (Method method : LineOfHeirs.class.getDeclaredMethods()) {
            if (Modifier.isPrivate(method.getModifiers())) {
                closedNames.add(method.getName());
            } else {
                open.add(told(method));
                openNames.add(method.getName());
                same(told(method) + "'s modifiers", Modifier.toString(method.getModifiers()), "public");
                same(told(method) + "'s answer", method.getReturnType(), int.class);
            }
        }
        for (Class<?> inside : LineOfHeirs.class.getDeclaredClasses()) {
            for (Method method : inside.getDeclaredMethods()) {
                closedNames.add(method.getName());
            }
        }
        same("the open methods", open, new TreeSet<>(METHODS));
        closedNames.retainAll(openNames);
        same("private methods with a public one's name", closedNames, Set.of());
    }

    private static void fields() {
        for (Field field : LineOfHeirs.class.getDeclaredFields()) {
            boolean isNone = field.getName().equals("NONE");
            String modifiers = Modifier.toString(field.getModifiers());
            same(field.getName() + " open", !Modifier.isPrivate(field.getModifiers()), isNone);
            if (Modifier.isStatic(field.getModifiers())) {
                same(field.getName() + " final", Modifier.isFinal(field.getModifiers()), true);
            }
            if (isNone) {
                same("NONE's modifiers", modifiers, "public static final");
                same("NONE's type", field.getType(), int.class);
            }
        }
        Due.is("NONE", LineOfHeirs.NONE, -1);
    }

    public static void main(String[] args) {
        same("the class's modifiers", Modifier.toString(LineOfHeirs.class.getModifiers()), "public final");
        Constructor<?>[] constructors = LineOfHeirs.class.getDeclaredConstructors();
        Due.is("constructors", constructors.length, 1);
        same("the constructor", constructors[0].toString(), "public LineOfHeirs()");
        for (Class<?> inside : LineOfHeirs.class.getDeclaredClasses()) {
            same(inside.getName() + " static", Modifier.isStatic(inside.getModifiers()), true);
            same(inside.getName() + " open", Modifier.isPublic(inside.getModifiers()), false);
        }
        methods();
        fields();
        Due.end("FaceTest");
    }
}
