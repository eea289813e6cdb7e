import java.io.IOException;
import java.lang.reflect.Executable;
import java.lang.reflect.Field;
import java.lang.reflect.Method;
import java.lang.reflect.Modifier;
import java.nio.file.Files;
import java.nio.file.Path;
import java.util.ArrayList;
import java.util.Arrays;
import java.util.HashSet;
import java.util.List;
import java.util.Set;
import java.util.regex.Matcher;
import java.util.regex.Pattern;

/** What LANGUAGE.md rules out and can be seen in the class's text, or by asking the class. */
public final class LanguageTest {
    private static final Path SOURCE = Path.of("src/main/java/ServiceDrawer.java");
    /** No library is used, nothing is caught, and nothing is asked of the world outside. */
    private static final String[] NEVER = {"package", "import", "try", "catch", "finally", "synchronized", "assert",
        "protected", "volatile", "native", "System", "Thread", "Runtime", "Random", "double", "float", "instanceof"};
    private static final Set<String> EXCEPTIONS = Set.of("IllegalStateException", "IllegalArgumentException",
        "IndexOutOfBoundsException", "UnsupportedOperationException");
    private static final int MOST_CLASSES = 12;
    private static final int MOST_FIELDS = 20;
    private static final int MOST_PARAMETERS = 7;
    private static final int MOST_LINES = 60;

    private static String codeOf(String text) {
        return text.replaceAll("(?s)/\\*.*?\\*/", "").replaceAll("//[^\n]*", "")
            .replaceAll("\"[^\"\n]*\"", "\"\"").replaceAll("'[^'\n]'", "' '");
    }

    private static void words(String code) {
        for (String word : NEVER) {
            Due.same("rules 4, 6, 13", Pattern.compile("\\b" + word + "\\b").matcher(code).find() ? word : "", "");
        }
        for (String sign : new String[] {"->", "::", "@", "static {"}) {
            Due.same("rules 2, 5", code.contains(sign) ? sign : "", "");
        }
    }

    /** Rule 6: each throw makes an exception that the document names, with a written text or none. */
    private static void thrown(String code) {
        Matcher thrown = Pattern.compile("\\bthrow\\b(.*)").matcher(code);
        Pattern made = Pattern.compile(" new (\\w+)\\((\"\")?\\);");
        while (thrown.find()) {
            Matcher what = made.matcher(thrown.group(1));
            boolean so = what.matches() && EXCEPTIONS.contains(what.group(1));
            Due.same("rule 6: " + thrown.group(), so ? "so" : "not so", "so");
        }
    }

    /** Rule 11: from a row that begins a method to the one that ends it, by how far both stand in. */
    private static void lengths(String code) {
        String[] lines = code.split("\n");
        for (int i = 0; i < lines.length; i++) {
            Matcher begins = Pattern.compile("( +)\\w.*\\) (throws [\\w, ]+)?\\{").matcher(lines[i]);
            if (begins.matches()) {
                int end = i;
                while (!lines[end].equals(begins.group(1) + "}") && !lines[end].startsWith(begins.group(1) + "} ")) {
                    end++;
                }
                Due.same("rule 11: " + lines[i].trim(), end - i < MOST_LINES ? "short" : "long", "short");
            }
        }
    }

    private static void looksAt(Class<?> type, Set<String> face) {
        int fields = 0;
        for (Field field : type.getDeclaredFields()) {
            boolean shared = Modifier.isStatic(field.getModifiers());
            fields += shared ? 0 : 1;
            boolean so = !shared || Modifier.isFinal(field.getModifiers()) && field.getType().isPrimitive();
            Due.same("rule 5: " + field, so ? "so" : "not so", "so");
        }
        Due.same("rule 11: fields of " + type, fields <= MOST_FIELDS ? "few" : "many", "few");
        List<Executable> all = new ArrayList<>(Arrays.asList(type.getDeclaredMethods()));
        all.addAll(Arrays.asList(type.getDeclaredConstructors()));
        for (Executable one : all) {
            Due.same("rule 11: " + one, one.getParameterCount() <= MOST_PARAMETERS ? "few" : "many", "few");
            if (type != ServiceDrawer.class) {
                Due.same("rule 1: " + one, face.contains(one.getName()) ? "a name of the face" : "", "");
            }
        }
    }

    public static void main(String[] args) throws IOException {
        String code = codeOf(Files.readString(SOURCE));
        words(code);
        thrown(code);
        lengths(code);
        Set<String> face = new HashSet<>();
        for (Method method : ServiceDrawer.class.getDeclaredMethods()) {
            if (Modifier.isPublic(method.getModifiers())) {
                face.add(method.getName());
            }
        }
        looksAt(ServiceDrawer.class, face);
        Class<?>[] inside = ServiceDrawer.class.getDeclaredClasses();
        for (Class<?> type : inside) {
            looksAt(type, face);
        }
        Due.same("rule 11: classes", inside.length < MOST_CLASSES ? "few" : "many", "few");
        Due.end();
    }
}
