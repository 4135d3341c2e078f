import java.lang.reflect.InvocationTargetException;
import java.lang.reflect.Method;
import java.lang.reflect.Modifier;
import java.nio.file.Files;
import java.nio.file.Path;
import java.util.regex.Matcher;
import java.util.regex.Pattern;

/** README.md against the class: each line of its example answers what stands behind it, and no method is left out of its table. */
public final class ReadmeTest {
    private static final Pattern CALL =
        Pattern.compile("x\\.(\\w+)\\((.*?)\\); +// (\"[^\"]*\"|throws \\w+|-?\\w+)(:.*)?");
    private static int wrong = 0;
    private static int lines = 0;

    public static void main(String[] args) throws Exception {
        String readme = Files.readString(Path.of("README.md"));
        int from = readme.indexOf("```java") + "```java".length();
        Rootwalk x = new Rootwalk();
        for (String line : readme.substring(from, readme.indexOf("```", from)).trim().split("\n")) {
            if (!line.equals("Rootwalk x = new Rootwalk();")) {
                tryLine(x, line);
            }
        }
        need(lines > 10, "the example has " + lines + " lines");
        table(readme);
        System.out.println(wrong == 0 ? "ReadmeTest: " + lines + " lines of the example hold" : "ReadmeTest: " + wrong + " complaints");
        if (wrong != 0) {
            System.exit(1);
        }
    }

    private static void need(boolean isSo, String complaint) {
        if (!isSo) {
            wrong++;
            System.out.println("ReadmeTest: " + complaint);
        }
    }

    private static void tryLine(Rootwalk x, String line) throws Exception {
        Matcher call = CALL.matcher(line);
        need(call.matches(), "not understood: " + line);
        if (!call.matches()) {
            return;
        }
        lines++;
        String[] words = call.group(2).isEmpty() ? new String[0] : call.group(2).split(", ");
        Object[] values = new Object[words.length];
        for (int i = 0; i < words.length; i++) {
            boolean isYesOrNo = words[i].equals("true") || words[i].equals("false");
            values[i] = isYesOrNo ? (Object) Boolean.valueOf(words[i]) : (Object) Integer.valueOf(words[i]);
        }
        String got = answer(x, call.group(1), values);
        need(got.equals(call.group(3)), line + " answered " + got);
    }

    private static String answer(Rootwalk x, String name, Object[] values) throws Exception {
        for (Method method : Rootwalk.class.getDeclaredMethods()) {
            if (Modifier.isPublic(method.getModifiers()) && method.getName().equals(name)) {
                try {
                    Object got = method.invoke(x, values);
                    return got instanceof String ? "\"" + got + "\"" : String.valueOf(got);
                } catch (InvocationTargetException e) {
                    return "throws " + e.getCause().getClass().getSimpleName();
                }
            }
        }
        return "no method " + name;
    }

    private static void table(String readme) {
        StringBuilder rows = new StringBuilder();
        for (String line : readme.split("\n")) {
            rows.append(line.startsWith("|") ? line : "");
        }
        for (Method method : Rootwalk.class.getDeclaredMethods()) {
            if (Modifier.isPublic(method.getModifiers())) {
                need(rows.indexOf("`" + method.getName() + "`") >= 0, "the table leaves out " + method.getName());
            }
        }
    }
}
