import java.lang.reflect.Constructor;
import java.lang.reflect.Field;
import java.lang.reflect.Method;
import java.lang.reflect.Modifier;
import java.util.Arrays;
import java.util.Set;
import java.util.TreeSet;

/** The public face is the document's, and nothing else of the class can be seen. */
public final class FaceTest {
    private static final String[] FACE = {
        "boolean diameter(int, int)", "boolean defect(int, int, int)", "boolean logKind(int, int, int)",
        "boolean priceOf(int, int, int, int)", "int buck()", "int byHand(long)", "int logs()",
        "int log(int, int) NoSuchElementException", "boolean size(int, int, int)",
        "boolean boardPrice(int, int, int)", "boolean height(int, int)", "boolean kerf(int)",
        "boolean need(int, int)", "boolean ladder(int, int, int)", "int needNow(int)",
        "int saw(int) NoSuchElementException", "int boards()", "int board(int, int) NoSuchElementException",
        "int cant()", "boolean fits(int, int, int)"
    };

    public static void main(String[] args) {
        Checks checks = new Checks("the face");
        Set<String> seen = new TreeSet<>();
        for (Method method : StemMill.class.getDeclaredMethods()) {
            if (!Modifier.isPrivate(method.getModifiers())) {
                seen.add(written(method));
            }
        }
        checks.taken("methods " + seen, seen.equals(new TreeSet<>(Arrays.asList(FACE))));
        for (Method method : StemMill.class.getDeclaredMethods()) {
            boolean clash = false;
            for (String line : FACE) {
                clash |= Modifier.isPrivate(method.getModifiers()) && line.contains(" " + method.getName() + "(");
            }
            checks.refused("a private method " + method.getName() + " with a public name", clash);
        }
        for (Field field : StemMill.class.getDeclaredFields()) {
            boolean isNone = field.getName().equals("NONE") && Modifier.isPublic(field.getModifiers());
            checks.taken("field " + field.getName(), isNone || Modifier.isPrivate(field.getModifiers()));
        }
        for (Class<?> inside : StemMill.class.getDeclaredClasses()) {
            checks.taken("class " + inside.getName(), Modifier.isStatic(inside.getModifiers())
                && !Modifier.isPublic(inside.getModifiers()) && !Modifier.isProtected(inside.getModifiers()));
        }
        Constructor<?>[] makers = StemMill.class.getDeclaredConstructors();
        checks.due("constructors", makers.length, 1);
        checks.taken("the constructor", Modifier.isPublic(makers[0].getModifiers())
            && Arrays.equals(makers[0].getParameterTypes(), new Class<?>[] {int.class}));
        checks.taken("final", Modifier.isFinal(StemMill.class.getModifiers()));
        checks.due("NONE", StemMill.NONE, -1);
        checks.end();
    }

    private static String written(Method method) {
        StringBuilder text = new StringBuilder();
        text.append(method.getReturnType().getSimpleName()).append(' ').append(method.getName()).append('(');
        String comma = "";
        for (Class<?> type : method.getParameterTypes()) {
            text.append(comma).append(type.getSimpleName());
            comma = ", ";
        }
        text.append(')');
        for (Class<?> type : method.getExceptionTypes()) {
            text.append(' ').append(type.getSimpleName());
        }
        return text.toString();
    }
}
