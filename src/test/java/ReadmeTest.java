import java.lang.reflect.InvocationTargetException;
import java.lang.reflect.Method;
import java.lang.reflect.Modifier;
import java.nio.file.Files;
import java.nio.file.Path;
import java.util.ArrayList;
import java.util.List;
import java.util.TreeSet;
import java.util.regex.Matcher;
import java.util.regex.Pattern;

/** README.md against the class: a row for each call, and the answers of its examples. */
final class ReadmeTest {
    private static final Checks CHECKS = new Checks();
    private static final Pattern ROW = Pattern.compile("\\| `([^`]*)` \\|[^|]*\\|[^|]*\\|([^|]*)\\|");
    private static final Pattern CALL =
            Pattern.compile("house\\.(\\w+)\\(([-0-9, ]*)\\); +// (throws \\w+|\"[^\"]*\"|-?\\w+).*");
    private static final Pattern THROWN = Pattern.compile("(Index|Argument|State):");
    private static final String MAKING = "Threetwo house = new Threetwo();";

    public static void main(String[] args) throws Exception {
        List<String> lines = Files.readAllLines(Path.of("README.md"));
        rows(lines);
        examples(lines);
        CHECKS.end();
    }

    private static void rows(List<String> lines) {
        List<String> told = new ArrayList<>();
        for (String line : lines) {
            Matcher row = ROW.matcher(line);
            if (row.matches()) {
                told.add(row.group(1).replaceAll(" \\w+([,)])", "$1") + thrown(row.group(2)));
            }
        }
        List<String> due = new ArrayList<>();
        for (Method method : Threetwo.class.getDeclaredMethods()) {
            if (Modifier.isPublic(method.getModifiers())) {
                due.add(face(method));
            }
        }
        CHECKS.due("how many rows", due.size(), told.size());
        CHECKS.due("the rows", new TreeSet<>(due).toString(), new TreeSet<>(told).toString());
    }

    /** The exceptions of a row in their order; a row that names none must say so. */
    private static String thrown(String column) {
        StringBuilder text = new StringBuilder();
        Matcher one = THROWN.matcher(column);
        while (one.find()) {
            text.append(' ').append(one.group(1));
        }
        return text.length() > 0 ? text.toString() : column;
    }

    private static String face(Method method) {
        StringBuilder text = new StringBuilder(method.getReturnType().getSimpleName());
        text.append(' ').append(method.getName()).append('(');
        for (int nth = 0; nth < method.getParameterCount(); nth++) {
            text.append(nth == 0 ? "" : ", ").append(method.getParameterTypes()[nth].getSimpleName());
        }
        text.append(')');
        for (Class<?> type : method.getExceptionTypes()) {
            text.append(' ').append(type.getSimpleName().replaceAll("Illegal|OutOfBounds|Exception", ""));
        }
        return text.append(method.getExceptionTypes().length == 0 ? " - " : "").toString();
    }

    private static void examples(List<String> lines) throws Exception {
        TreeSet<String> used = new TreeSet<>();
        Threetwo house = null;
        boolean inside = false;
        for (String line : lines) {
            if (line.startsWith("```")) {
                inside = line.equals("```java");
                house = null;
            } else if (inside && line.equals(MAKING)) {
                house = new Threetwo();
            } else if (inside) {
                Matcher call = CALL.matcher(line);
                CHECKS.due("the form of the example: " + line, true, call.matches() && house != null);
                if (call.matches() && house != null) {
                    used.add(call.group(1));
                    CHECKS.due(line, call.group(3), answer(house, call.group(1), call.group(2)));
                }
            }
        }
        for (Method method : Threetwo.class.getDeclaredMethods()) {
            if (Modifier.isPublic(method.getModifiers())) {
                CHECKS.due(method.getName() + " has an example", true, used.contains(method.getName()));
            }
        }
    }

    private static String answer(Threetwo house, String name, String told) throws Exception {
        String[] parts = told.isEmpty() ? new String[0] : told.split(", ");
        Object[] values = new Object[parts.length];
        Class<?>[] types = new Class<?>[parts.length];
        for (int nth = 0; nth < parts.length; nth++) {
            values[nth] = Integer.parseInt(parts[nth]);
            types[nth] = int.class;
        }
        try {
            Object got = Threetwo.class.getMethod(name, types).invoke(house, values);
            return got instanceof String ? "\"" + got + "\"" : got.toString();
        } catch (InvocationTargetException e) {
            return "throws " + e.getCause().getClass().getSimpleName();
        }
    }
}
