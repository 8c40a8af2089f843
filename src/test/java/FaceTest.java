import java.lang.reflect.Constructor;
import java.lang.reflect.Field;
import java.lang.reflect.Method;
import java.lang.reflect.Modifier;
import java.util.Arrays;
import java.util.Set;
import java.util.TreeSet;

/** The public face is the document's, and nothing else of the class can be seen. */
public final class FaceTest {
    private static final Expect EXPECT = new Expect("FaceTest");

    public static void main(String[] args) {
        EXPECT.same("the class", "public final", Modifier.toString(FormulaLists.class.getModifiers()));
        Set<String> due = new TreeSet<>(Arrays.asList(
            "int atom(int, int) IllegalArgumentException UnsupportedOperationException",
            "int script(int, boolean, int) NoSuchElementException IllegalStateException",
            "int fraction(int, int, long) NoSuchElementException IllegalArgumentException IllegalStateException UnsupportedOperationException",
            "int fence(int, int, int) NoSuchElementException IllegalArgumentException IllegalStateException UnsupportedOperationException",
            "int matrix(int, int) UnsupportedOperationException",
            "int style(int, boolean) IllegalArgumentException UnsupportedOperationException",
            "int run(int) NoSuchElementException",
            "int item(int, int) IndexOutOfBoundsException",
            "int space(int, int) IllegalArgumentException",
            "int kind(int) NoSuchElementException",
            "int split(int, int) NoSuchElementException IndexOutOfBoundsException UnsupportedOperationException"));
        EXPECT.same("the methods", due.toString(), seenMethods().toString());
        for (Field field : FormulaLists.class.getDeclaredFields()) {
            EXPECT.same("field " + field.getName(), "true", "" + Modifier.isPrivate(field.getModifiers()));
        }
        Constructor<?>[] constructors = FormulaLists.class.getDeclaredConstructors();
        EXPECT.same("the constructors", "[public FormulaLists()]", Arrays.toString(constructors));
        for (Class<?> inside : FormulaLists.class.getDeclaredClasses()) {
            int modifiers = inside.getModifiers();
            boolean hidden = !Modifier.isPublic(modifiers) && !Modifier.isProtected(modifiers);
            EXPECT.same(inside.getName(), "true", "" + (hidden && Modifier.isStatic(modifiers)));
        }
        EXPECT.end();
    }

    private static Set<String> seenMethods() {
        Set<String> seen = new TreeSet<>();
        for (Method method : FormulaLists.class.getDeclaredMethods()) {
            if (Modifier.isPrivate(method.getModifiers())) {
                continue;
            }
            StringBuilder text = new StringBuilder(method.getReturnType().getSimpleName());
            text.append(' ').append(method.getName()).append('(');
            for (int i = 0; i < method.getParameterCount(); i++) {
                text.append(i == 0 ? "" : ", ").append(method.getParameterTypes()[i].getSimpleName());
            }
            text.append(')');
            for (Class<?> thrown : method.getExceptionTypes()) {
                text.append(' ').append(thrown.getSimpleName());
            }
            seen.add(text.toString());
        }
        return seen;
    }
}
