import java.lang.reflect.Constructor;
import java.lang.reflect.Field;
import java.lang.reflect.Method;
import java.lang.reflect.Modifier;
import java.util.Set;
import java.util.TreeSet;

/** The public face, and rule 1 of LANGUAGE.md. */
public final class FaceTest {
    private static final String[] METHODS = {
        "boolean giveWord int int", "boolean setRegister int int", "boolean linesFrom int int",
        "void restart", "int runCycles int", "int registerOf int", "int specialOf int",
        "int wordAt int", "int placeOf int", "int eventOf int int", "int valueOf int int",
        "int lookAt int",
    };

    private FaceTest() {
    }

    public static void main(String[] args) throws ReflectiveOperationException {
        Class<TwinIssue> face = TwinIssue.class;
        Check.due("public", Modifier.isPublic(face.getModifiers()), true);
        Check.due("final", Modifier.isFinal(face.getModifiers()), true);
        Set<String> open = new TreeSet<>();
        Set<String> hidden = new TreeSet<>();
        for (Method method : face.getDeclaredMethods()) {
            if (Modifier.isPublic(method.getModifiers())) {
                open.add(describe(method));
            } else {
                Check.due(method + " is private", Modifier.isPrivate(method.getModifiers()), true);
                hidden.add(method.getName());
            }
        }
        Check.due("methods " + open, open.equals(Set.of(METHODS)), true);
        for (String method : METHODS) {
            Check.due("hidden " + method, hidden.contains(method.split(" ")[1]), false);
        }
        for (Field field : face.getDeclaredFields()) {
            boolean none = field.getName().equals("NONE");
            Check.due(field + " is private", Modifier.isPrivate(field.getModifiers()), !none);
        }
        int modifiers = face.getField("NONE").getModifiers();
        Check.due("NONE static", Modifier.isStatic(modifiers), true);
        Check.due("NONE final", Modifier.isFinal(modifiers), true);
        Check.due("NONE", TwinIssue.NONE, -1);
        Constructor<?>[] constructors = face.getDeclaredConstructors();
        Check.due("constructors", constructors.length, 1);
        Check.due("constructor", face.getConstructor(int.class).equals(constructors[0]), true);
        for (Class<?> inside : face.getDeclaredClasses()) {
            int bits = inside.getModifiers();
            Check.due(inside + " is static", Modifier.isStatic(bits), true);
            Check.due(inside + " is shut", Modifier.isPublic(bits), false);
        }
        Check.end("FaceTest");
    }

    private static String describe(Method method) {
        StringBuilder text = new StringBuilder();
        text.append(method.getReturnType()).append(' ').append(method.getName());
        for (Class<?> type : method.getParameterTypes()) {
            text.append(' ').append(type);
        }
        return text.toString();
    }
}
