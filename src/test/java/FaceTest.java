import java.lang.reflect.Constructor;
import java.lang.reflect.Executable;
import java.lang.reflect.Field;
import java.lang.reflect.Method;
import java.lang.reflect.Modifier;
import java.util.Arrays;
import java.util.Set;
import java.util.TreeSet;
import java.util.stream.Collectors;

/**
 * The face has every member as the document's code block writes it, and nothing else that is not private. The names of
 * parameters are there to be asked only if javac was told -parameters, as .ci/run does.
 */
public final class FaceTest {
    private static final String[] DUE = {
        "public static final int NONE = -1;",
        "public OutlookOdds();",
        "public void age(int age, int number, int weight, int ripe, int die)"
            + " throws IndexOutOfBoundsException, IllegalArgumentException;",
        "public int young(int n) throws IllegalArgumentException;",
        "public int rule(int low, int high, int rate) throws IllegalArgumentException, IllegalStateException;",
        "public int change(int most) throws IllegalArgumentException;",
        "public void error(int spread, int delay) throws IllegalArgumentException;",
        "public int mark(int v) throws IllegalArgumentException;",
        "public int draw(int seed, int year, int which);",
        "public int run(int rule, int years, int seeds) throws IndexOutOfBoundsException, IllegalArgumentException;",
        "public long told(int seed, int year, int what) throws IllegalStateException, IndexOutOfBoundsException;",
        "public int below(int year, int part) throws IllegalStateException, IndexOutOfBoundsException;",
        "public long steady(int seed) throws IllegalStateException, IndexOutOfBoundsException;",
        "public int recovers(int seed, int span)"
            + " throws IllegalStateException, IndexOutOfBoundsException, IllegalArgumentException;",
        "public long rank(int year, int k) throws IllegalStateException, IndexOutOfBoundsException;",
        "public long mean(int what, int part) throws IllegalStateException, IndexOutOfBoundsException;",
        "public long table(int k) throws IllegalStateException, IndexOutOfBoundsException;",
        "public int top() throws IllegalStateException;",
        "public int count(int what);",
    };

    public static void main(String[] args) throws IllegalAccessException {
        members();
        theClassItself();
        classesInside();
        Check.end();
    }

    private static void members() throws IllegalAccessException {
        Set<String> face = new TreeSet<>();
        for (Field field : OutlookOdds.class.getDeclaredFields()) {
            if (!Modifier.isPrivate(field.getModifiers())) {
                face.add(Modifier.toString(field.getModifiers()) + " " + field.getType().getSimpleName() + " "
                    + field.getName() + " = " + valueOf(field) + ";");
            }
        }
        for (Constructor<?> constructor : OutlookOdds.class.getDeclaredConstructors()) {
            addOpen(face, constructor, "OutlookOdds");
        }
        for (Method method : OutlookOdds.class.getDeclaredMethods()) {
            addOpen(face, method, method.getReturnType().getSimpleName() + " " + method.getName());
        }
        Check.same("the face", String.join("\n", face), String.join("\n", new TreeSet<>(Set.of(DUE))));
    }

    private static String valueOf(Field field) throws IllegalAccessException {
        return Modifier.isStatic(field.getModifiers()) ? "" + field.get(null) : "?";
    }

    private static void addOpen(Set<String> face, Executable call, String name) {
        if (Modifier.isPrivate(call.getModifiers())) {
            return;
        }
        String parameters = Arrays.stream(call.getParameters())
            .map(p -> p.getType().getSimpleName() + " " + p.getName())
            .collect(Collectors.joining(", ", "(", ")"));
        String thrown = Arrays.stream(call.getExceptionTypes())
            .map(Class::getSimpleName)
            .collect(Collectors.joining(", "));
        face.add(Modifier.toString(call.getModifiers()) + " " + name + parameters
            + (thrown.isEmpty() ? "" : " throws " + thrown) + ";");
    }

    /** What a class above it or an interface has would be open too. */
    private static void theClassItself() {
        Check.same("the class", Modifier.toString(OutlookOdds.class.getModifiers()), "public final");
        Check.same("the name", OutlookOdds.class.getName(), "OutlookOdds");
        Check.same("the class above", OutlookOdds.class.getSuperclass().getName(), "java.lang.Object");
        Check.same("interfaces", OutlookOdds.class.getInterfaces().length, 0);
    }

    private static void classesInside() {
        for (Class<?> inside : OutlookOdds.class.getDeclaredClasses()) {
            int modifiers = inside.getModifiers();
            boolean open = Modifier.isPublic(modifiers) || Modifier.isProtected(modifiers);
            Check.same("class " + inside.getSimpleName() + " is open", open ? 1 : 0, 0);
        }
    }
}
