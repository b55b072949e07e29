import java.lang.reflect.Constructor;
import java.lang.reflect.Field;
import java.lang.reflect.Method;
import java.lang.reflect.Modifier;
import java.util.Map;
import java.util.TreeMap;
import java.util.stream.Collectors;
import java.util.stream.Stream;

/** The public face, and rules 1 and 5 of LANGUAGE.md as far as the compiled class shows them. */
public final class FaceTest {
    private static final String INDEX = "IndexOutOfBoundsException";
    private static final String ARGUMENT = "IllegalArgumentException";
    private static final String STATE = "IllegalStateException";
    private static final String SUPPORT = "UnsupportedOperationException";

    public static void main(String[] args) throws Exception {
        Due.sentence("The public face");
        theClass();
        theMethods();
        theFields();
        theClassesInside();
        Due.end();
    }

    private static void theClass() throws Exception {
        int modifiers = ShareShelf.class.getModifiers();
        Due.is("the class", Modifier.toString(modifiers), "public final");
        Due.is("constructors", ShareShelf.class.getDeclaredConstructors().length, 1);
        Constructor<?> made = ShareShelf.class.getConstructor();
        Due.is("the constructor's exceptions", made.getExceptionTypes().length, 0);
    }

    private static void theMethods() {
        Map<String, String> due = new TreeMap<>();
        due.put("void load(int,int)", INDEX);
        due.put("int put(int,int)", String.join(" ", INDEX, ARGUMENT, STATE, SUPPORT));
        due.put("void cut(int)", ARGUMENT);
        due.put("boolean settle(int)", String.join(" ", INDEX, STATE));
        due.put(
                "int get(int,int)",
                String.join(" ", INDEX, ARGUMENT, STATE, "NoSuchElementException", SUPPORT));
        due.put("int out(int)", INDEX);
        due.put("int object(int,int)", INDEX);
        due.put("void fail(int)", String.join(" ", INDEX, STATE));
        due.put("void back(int,boolean)", String.join(" ", INDEX, STATE));
        due.put("int rebuild(int,int)", String.join(" ", INDEX, ARGUMENT, STATE, SUPPORT));
        due.put("int node(int,int)", INDEX);
        due.put("int share(int,int,int)", INDEX);
        due.put("int byteAt(int,int,int)", INDEX);
        due.put("int field(int,int,int)", String.join(" ", INDEX, ARGUMENT));

        Map<String, String> got = new TreeMap<>();
        for (Method method : ShareShelf.class.getDeclaredMethods()) {
            if (!Modifier.isPrivate(method.getModifiers())) {
                Due.is(method.getName(), Modifier.toString(method.getModifiers()), "public");
                got.put(signature(method), names(method.getExceptionTypes()));
            }
        }
        Due.is("the methods", got.toString(), due.toString());
        for (Method method : ShareShelf.class.getDeclaredMethods()) {
            boolean hides = Modifier.isPrivate(method.getModifiers())
                    && got.keySet().stream().anyMatch(s -> s.contains(" " + method.getName() + "("));
            Due.is("private " + method.getName() + " bears a public name", hides ? 1 : 0, 0);
        }
    }

    private static String signature(Method method) {
        return method.getReturnType() + " " + method.getName() + "("
                + Stream.of(method.getParameterTypes())
                        .map(Class::toString)
                        .collect(Collectors.joining(","))
                + ")";
    }

    private static String names(Class<?>[] types) {
        return Stream.of(types).map(Class::getSimpleName).collect(Collectors.joining(" "));
    }

    private static void theFields() {
        Due.sentence("The constants: `NONE = -1`: Nothing there.");
        Due.is("NONE", ShareShelf.NONE, -1);
        Due.sentence("The public face");
        for (Field field : ShareShelf.class.getDeclaredFields()) {
            int modifiers = field.getModifiers();
            String due = field.getName().equals("NONE") ? "public static final" : "private";
            String got = Modifier.toString(modifiers);
            Due.is("field " + field.getName(), got.startsWith(due) ? 1 : 0, 1);
            boolean loose = Modifier.isStatic(modifiers) && !Modifier.isFinal(modifiers);
            Due.is("loose static field " + field.getName(), loose ? 1 : 0, 0);
        }
    }

    private static void theClassesInside() {
        for (Class<?> inside : ShareShelf.class.getDeclaredClasses()) {
            int modifiers = inside.getModifiers();
            boolean hidden = !Modifier.isPublic(modifiers) && !Modifier.isProtected(modifiers);
            Due.is(inside.getName() + " hidden and static",
                    hidden && Modifier.isStatic(modifiers) ? 1 : 0, 1);
        }
    }
}
