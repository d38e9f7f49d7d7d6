import java.lang.reflect.Constructor;
import java.lang.reflect.Field;
import java.lang.reflect.Member;
import java.lang.reflect.Method;
import java.lang.reflect.Modifier;
import java.util.Arrays;
import java.util.Set;
import java.util.TreeSet;

/** The public face: the document's, and nothing else that could be seen from outside. */
public final class FaceTest {
    private static final String[] FACE = {
        "int NONE", "CurveRaster()", "int add(int, int, boolean) IllegalArgumentException IllegalStateException",
        "int close() IllegalStateException", "int drop()", "int clear()", "void move(int, int) IllegalArgumentException",
        "boolean parity(boolean)", "int count(int)", "int winding(int, int) IllegalArgumentException",
        "long row(int) IndexOutOfBoundsException", "int share(int, int) IndexOutOfBoundsException",
        "int spans(int) IndexOutOfBoundsException", "int span(int, int, boolean) IndexOutOfBoundsException",
        "int extent(int) IndexOutOfBoundsException IllegalStateException"};

    public static void main(String[] args) {
        Due due = new Due();
        Set<String> seen = new TreeSet<>();
        for (Field field : CurveRaster.class.getDeclaredFields()) {
            keep(seen, field, field.getType().getSimpleName() + " " + field.getName());
        }
        for (Constructor<?> made : CurveRaster.class.getDeclaredConstructors()) {
            keep(seen, made, "CurveRaster" + types(made.getParameterTypes()) + thrown(made.getExceptionTypes()));
        }
        for (Method method : CurveRaster.class.getDeclaredMethods()) {
            keep(seen, method, method.getReturnType().getSimpleName() + " " + method.getName()
                    + types(method.getParameterTypes()) + thrown(method.getExceptionTypes()));
        }
        for (String member : FACE) {
            due.due("the class has " + member, seen.remove(member), true);
        }
        for (String member : seen) {
            due.due("the class has also " + member, true, false);
        }
        int modifiers = CurveRaster.class.getModifiers();
        due.due("the class is public and final", Modifier.isPublic(modifiers) && Modifier.isFinal(modifiers), true);
        due.due("NONE", CurveRaster.NONE, -1);
        due.end("FaceTest");
    }

    private static void keep(Set<String> seen, Member member, String text) {
        if (!Modifier.isPrivate(member.getModifiers())) {
            seen.add(text);
        }
    }

    private static String types(Class<?>[] types) {
        return "(" + String.join(", ", Arrays.stream(types).map(Class::getSimpleName).toList()) + ")";
    }

    private static String thrown(Class<?>[] types) {
        return Arrays.stream(types).map(type -> " " + type.getSimpleName()).reduce("", String::concat);
    }
}
