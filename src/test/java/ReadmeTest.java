import java.io.IOException;
import java.lang.reflect.InvocationTargetException;
import java.lang.reflect.Method;
import java.lang.reflect.Modifier;
import java.nio.file.Files;
import java.nio.file.Path;
import java.util.ArrayList;
import java.util.List;
import java.util.Set;
import java.util.TreeSet;
import java.util.regex.Matcher;
import java.util.regex.Pattern;

/** The runs of README.md answer what it says, and each method and each exception of the face has a row there. */
public final class ReadmeTest {
    private static final String NEW = "ServiceDrawer x = new ServiceDrawer();";
    private static final Pattern ROW = Pattern.compile("(?:for \\(int i = 0; i < (\\d+); i\\+\\+\\) )?"
        + "x\\.(\\w+)\\((.*)\\); +// (-?\\d+|true|false|nothing|throws \\w+)(?:[ ,:].*)?");

    private static ServiceDrawer x;
    private static final Set<String> SHOWN = new TreeSet<>();

    private static Method method(String name) {
        for (Method method : ServiceDrawer.class.getMethods()) {
            if (method.getDeclaringClass() == ServiceDrawer.class && method.getName().equals(name)) {
                return method;
            }
        }
        throw new AssertionError("no such method: " + name);
    }

    private static Object[] arguments(Method method, String written) {
        String[] texts = written.isEmpty() ? new String[0] : written.split(", ");
        Object[] values = new Object[texts.length];
        Class<?>[] types = method.getParameterTypes();
        for (int i = 0; i < texts.length; i++) {
            if (types[i] == boolean.class) {
                values[i] = Boolean.parseBoolean(texts[i]);
            } else if (types[i] == long.class) {
                values[i] = Long.decode(texts[i].replace("L", ""));
            } else {
                values[i] = Integer.decode(texts[i]);
            }
        }
        return values;
    }

    private static String answer(Method method, Object[] arguments) throws IllegalAccessException {
        try {
            Object answer = method.invoke(x, arguments);
            return method.getReturnType() == void.class ? "nothing" : answer.toString();
        } catch (InvocationTargetException e) {
            return "throws " + e.getCause().getClass().getSimpleName();
        }
    }

    private static void ask(String line) throws IllegalAccessException {
        Matcher row = ROW.matcher(line);
        if (!row.matches()) {
            Due.same("a row of README.md", line, "a call and its answer");
            return;
        }
        Method method = method(row.group(2));
        Object[] arguments = arguments(method, row.group(3));
        int times = row.group(1) == null ? 1 : Integer.parseInt(row.group(1));
        String got = "";
        for (int i = 0; i < times; i++) {
            got = answer(method, arguments);
        }
        Due.same("README.md: " + line, got, row.group(4));
        SHOWN.add(method.getName() + (got.startsWith("throws") ? " " + got : " answers"));
    }

    /** Each method with an answer, and with each exception that the face names for it. */
    private static Set<String> due() {
        Set<String> due = new TreeSet<>();
        for (Method method : ServiceDrawer.class.getDeclaredMethods()) {
            if (Modifier.isPublic(method.getModifiers())) {
                due.add(method.getName() + " answers");
                for (Class<?> thrown : method.getExceptionTypes()) {
                    due.add(method.getName() + " throws " + thrown.getSimpleName());
                }
            }
        }
        return due;
    }

    private static List<List<String>> runs() throws IOException {
        List<List<String>> runs = new ArrayList<>();
        boolean inside = false;
        for (String line : Files.readAllLines(Path.of("README.md"))) {
            if (line.startsWith("```")) {
                inside = line.equals("```java");
                if (inside) {
                    runs.add(new ArrayList<>());
                }
            } else if (inside) {
                runs.get(runs.size() - 1).add(line);
            }
        }
        return runs;
    }

    public static void main(String[] args) throws IOException, IllegalAccessException {
        for (List<String> run : runs()) {
            Due.same("the first row of a run", run.get(0), NEW);
            x = new ServiceDrawer();
            for (String line : run.subList(1, run.size())) {
                ask(line);
            }
        }
        Due.same("what README.md shows", SHOWN.toString(), due().toString());
        Due.end();
    }
}
