import java.lang.reflect.Constructor;
import java.lang.reflect.Field;
import java.lang.reflect.Method;
import java.lang.reflect.Modifier;
import java.util.Set;
import java.util.TreeSet;

/** The face has every member of the document, with what it may throw, and nothing else that is not private. */
public final class FaceTest {
    private static final String[] DUE = {
        "public static final int OutlookOdds.NONE",
        "public OutlookOdds()",
        "public void OutlookOdds.age(int,int,int,int,int) throws IndexOutOfBoundsException,IllegalArgumentException",
        "public int OutlookOdds.young(int) throws IllegalArgumentException",
        "public int OutlookOdds.rule(int,int,int) throws IllegalArgumentException,IllegalStateException",
        "public int OutlookOdds.change(int) throws IllegalArgumentException",
        "public void OutlookOdds.error(int,int) throws IllegalArgumentException",
        "public int OutlookOdds.mark(int) throws IllegalArgumentException",
        "public int OutlookOdds.draw(int,int,int)",
        "public int OutlookOdds.run(int,int,int) throws IndexOutOfBoundsException,IllegalArgumentException",
        "public long OutlookOdds.told(int,int,int) throws IllegalStateException,IndexOutOfBoundsException",
        "public int OutlookOdds.below(int,int) throws IllegalStateException,IndexOutOfBoundsException",
        "public long OutlookOdds.steady(int) throws IllegalStateException,IndexOutOfBoundsException",
        "public int OutlookOdds.recovers(int,int)"
            + " throws IllegalStateException,IndexOutOfBoundsException,IllegalArgumentException",
        "public long OutlookOdds.rank(int,int) throws IllegalStateException,IndexOutOfBoundsException",
        "public long OutlookOdds.mean(int,int) throws IllegalStateException,IndexOutOfBoundsException",
        "public long OutlookOdds.table(int) throws IllegalStateException,IndexOutOfBoundsException",
        "public int OutlookOdds.top() throws IllegalStateException",
        "public int OutlookOdds.count(int)",
    };

    public static void main(String[] args) {
        Set<String> face = new TreeSet<>();
        for (Field field : OutlookOdds.class.getDeclaredFields()) {
            addOpen(face, field.getModifiers(), field.toString());
        }
        for (Constructor<?> constructor : OutlookOdds.class.getDeclaredConstructors()) {
            addOpen(face, constructor.getModifiers(), constructor.toString());
        }
        for (Method method : OutlookOdds.class.getDeclaredMethods()) {
            addOpen(face, method.getModifiers(), method.toString());
        }
        Set<String> due = new TreeSet<>(Set.of(DUE));
        Check.same("the face", String.join("\n", face), String.join("\n", due));
        Check.same("the class", Modifier.toString(OutlookOdds.class.getModifiers()), "public final");
        Check.end();
    }

    private static void addOpen(Set<String> face, int modifiers, String text) {
        if (!Modifier.isPrivate(modifiers)) {
            face.add(text.replace("java.lang.", ""));
        }
    }
}
