import java.io.IOException;
import java.lang.reflect.Constructor;
import java.lang.reflect.Field;
import java.lang.reflect.Method;
import java.lang.reflect.Modifier;
import java.nio.file.Files;
import java.nio.file.Path;
import java.util.Arrays;
import java.util.Set;
import java.util.TreeSet;
import java.util.regex.Matcher;
import java.util.regex.Pattern;

/** The public face of the document, and those rules of LANGUAGE.md that can be seen without running. */
public final class FaceTest {
    private static final Checks checks = new Checks();
    private static final Set<String> FACE = Set.of("int feed(int,int,int,int,int)", "int end(int)", "int read()",
        "int place()", "int rows(int)", "int columns(int)", "int named(int)", "int lane(int,int)",
        "long value(int,int,int)", "boolean missing(int,int,int)", "int length(int,int,int)", "int at(int,int,int,int)",
        "int row(int)", "int pick(int)", "int write(int)", "int out(int)");

    public static void main(String[] args) throws IOException {
        theFace();
        theClassesInside();
        theSource();
        checks.finish();
    }

    private static void theFace() {
        Set<String> seen = new TreeSet<>();
        for (Method method : CommaTables.class.getDeclaredMethods()) {
            if (!Modifier.isPrivate(method.getModifiers())) {
                seen.add(signature(method));
            }
        }
        checks.due("rule 1: methods", seen.toString(), new TreeSet<>(FACE).toString());
        checks.due("rule 1: final", Modifier.isFinal(CommaTables.class.getModifiers()), true);
        Constructor<?>[] constructors = CommaTables.class.getDeclaredConstructors();
        checks.due("rule 1: constructors", constructors.length, 1);
        checks.due("rule 1: its parameters", constructors[0].getParameterCount(), 0);
        for (Field field : CommaTables.class.getDeclaredFields()) {
            checks.due("rule 1: " + field.getName(), Modifier.isPrivate(field.getModifiers()), true);
        }
    }

    private static String signature(Method method) {
        String[] types = Arrays.stream(method.getParameterTypes()).map(Class::getName).toArray(String[]::new);
        return method.getReturnType().getName() + " " + method.getName() + "(" + String.join(",", types) + ")";
    }

    private static void theClassesInside() {
        Class<?>[] inside = CommaTables.class.getDeclaredClasses();
        checks.due("rule 11: at most twelve classes", inside.length < 12, true);
        for (Class<?> type : inside) {
            checks.due("rule 2: static " + type, Modifier.isStatic(type.getModifiers()), true);
            long fields = Arrays.stream(type.getDeclaredFields()).filter(f -> !Modifier.isStatic(f.getModifiers())).count();
            checks.due("rule 11: fields of " + type, fields <= 20, true);
            for (Method method : type.getDeclaredMethods()) {
                checks.due("rule 11: parameters of " + method, method.getParameterCount() <= 7, true);
                boolean taken = FACE.stream().anyMatch(s -> s.matches("\\w+ " + method.getName() + "\\(.*"));
                checks.due("rule 1: name of " + method, taken, false);
            }
            for (Field field : type.getDeclaredFields()) {
                boolean changing = Modifier.isStatic(field.getModifiers()) && !Modifier.isFinal(field.getModifiers());
                checks.due("rule 5: " + field, changing, false);
            }
        }
    }

    private static void theSource() throws IOException {
        String source = Files.readString(Path.of("src/main/java/CommaTables.java"));
        String code = source.replaceAll("(?s)/\\*.*?\\*/", "").replaceAll("//[^\n]*", "").replaceAll("\"[^\"\n]*\"", "\"\"");
        Matcher banned = Pattern.compile("\\b(throw|throws|try|catch|synchronized|assert|Exact|Double|Float|System\\.(?!arraycopy)"
            + "\\w+|package|import (?!java\\.util\\.Arrays;).*|default)\\b|->|::").matcher(code);
        checks.due("rule 6: words", banned.find() ? banned.group() : "", "");
    }
}
