import java.io.IOException;
import java.lang.reflect.Constructor;
import java.lang.reflect.Field;
import java.lang.reflect.Method;
import java.lang.reflect.Modifier;
import java.nio.file.Files;
import java.nio.file.Path;
import java.util.ArrayList;
import java.util.List;
import java.util.Set;
import java.util.TreeSet;
import java.util.regex.Matcher;
import java.util.regex.Pattern;

/** What can be seen from outside of the rules of LANGUAGE.md: words, classes, fields and lengths. */
public final class LanguageTest {
    private static final Checks CHECKS = new Checks("the language");
    private static final String SOURCE = "src/main/java/StemMill.java";
    private static final Set<String> LIBRARY = Set.of("Arrays.fill", "Math.max", "Math.min");
    private static final Set<String> IMPORTS = Set.of("java.util.Arrays", "java.util.NoSuchElementException");
    private static final String[] RULED_OUT = {
        "->", "::", "\"", "@", "package ", " finally", "synchronized", "assert ", " try ", " catch ", "static {",
        "instanceof", " while ", " do ", "double", "float", "Object", "System", "Thread", "Random", "native", "volatile"
    };

    public static void main(String[] args) throws IOException {
        List<String> lines = Files.readAllLines(Path.of(SOURCE));
        String code = withoutComments(String.join("\n", lines));
        for (String word : RULED_OUT) {
            CHECKS.refused("the word " + word, code.contains(word));
        }
        library(code);
        lengths(lines);
        List<Class<?>> classes = allClasses();
        CHECKS.taken(classes.size() + " classes", classes.size() <= 12);
        for (Class<?> each : classes) {
            fields(each);
            methods(each);
        }
        CHECKS.end();
    }

    private static String withoutComments(String code) {
        return code.replaceAll("(?s)/\\*.*?\\*/", "").replaceAll("//[^\n]*", "");
    }

    /** Rules 4 and 6: nothing but what is named above, and one exception. */
    private static void library(String code) {
        Matcher imported = Pattern.compile("import ([\\w.]+);").matcher(code);
        while (imported.find()) {
            CHECKS.taken("import " + imported.group(1), IMPORTS.contains(imported.group(1)));
        }
        Matcher used = Pattern.compile("\\b([A-Z]\\w*\\.[a-z]\\w*)\\(").matcher(code);
        while (used.find()) {
            boolean own = used.group(1).equals("LogKind.slot");
            CHECKS.taken("a call of " + used.group(1), own || LIBRARY.contains(used.group(1)));
        }
        Matcher thrown = Pattern.compile("throw new (\\w+)").matcher(code);
        while (thrown.find()) {
            CHECKS.taken("throw " + thrown.group(1), thrown.group(1).equals("NoSuchElementException"));
        }
    }

    /** Rule 11: a method begins and ends at the same depth of its class. */
    private static void lengths(List<String> lines) {
        int longest = 0;
        int wide = 0;
        for (int i = 0; i < lines.size(); i++) {
            wide = Math.max(wide, lines.get(i).length());
            Matcher head = Pattern.compile("( {4}| {8})\\w[^;=]*\\(.*\\{").matcher(lines.get(i));
            if (head.matches() && !lines.get(i).contains("for (") && !lines.get(i).contains("if (")) {
                int end = i + 1;
                while (end < lines.size() && !lines.get(end).equals(head.group(1) + "}")) {
                    end++;
                }
                longest = Math.max(longest, end - i + 1);
            }
        }
        CHECKS.taken("the longest method has " + longest + " lines", longest > 5 && longest <= 60);
        CHECKS.taken("the widest line has " + wide + " characters", wide <= 120);
    }

    private static List<Class<?>> allClasses() {
        List<Class<?>> classes = new ArrayList<>();
        classes.add(StemMill.class);
        for (int i = 0; i < classes.size(); i++) {
            classes.addAll(List.of(classes.get(i).getDeclaredClasses()));
        }
        return classes;
    }

    /** Rules 3, 5 and 11: static fields are constants, arrays are plain, and there are few fields. */
    private static void fields(Class<?> each) {
        int own = 0;
        for (Field field : each.getDeclaredFields()) {
            String name = each.getSimpleName() + "." + field.getName();
            if (Modifier.isStatic(field.getModifiers())) {
                CHECKS.taken("a final int " + name, Modifier.isFinal(field.getModifiers()) && isInt(field.getType()));
            } else {
                own++;
                CHECKS.taken("a type of ours: " + name, isOurs(field.getType()));
            }
        }
        CHECKS.taken(each.getSimpleName() + " has " + own + " fields", own <= 20);
    }

    private static boolean isInt(Class<?> type) {
        return type == int.class;
    }

    private static boolean isOurs(Class<?> type) {
        Class<?> plain = type.isArray() ? type.getComponentType() : type;
        return isInt(plain) || plain.getName().startsWith("StemMill$");
    }

    /** Rules 1 and 11: no other method has a name of the face, and none takes more than seven numbers. */
    private static void methods(Class<?> each) {
        Set<String> face = new TreeSet<>();
        for (Method method : StemMill.class.getDeclaredMethods()) {
            if (Modifier.isPublic(method.getModifiers())) {
                face.add(method.getName());
            }
        }
        for (Method method : each.getDeclaredMethods()) {
            String name = each.getSimpleName() + "." + method.getName();
            boolean clash = !Modifier.isPublic(method.getModifiers()) && face.contains(method.getName());
            CHECKS.refused("a name of the face: " + name, clash);
            CHECKS.taken("few numbers: " + name, method.getParameterCount() <= 7);
        }
        for (Constructor<?> maker : each.getDeclaredConstructors()) {
            CHECKS.taken("few numbers: new " + each.getSimpleName(), maker.getParameterCount() <= 7);
        }
    }
}
