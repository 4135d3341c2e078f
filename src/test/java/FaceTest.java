import java.lang.reflect.Constructor;
import java.lang.reflect.Field;
import java.lang.reflect.Method;
import java.lang.reflect.Modifier;
import java.nio.file.Files;
import java.nio.file.Path;
import java.util.ArrayList;
import java.util.List;
import java.util.TreeSet;
import java.util.regex.Matcher;
import java.util.regex.Pattern;

/** The face of the class against the document's, and what of LANGUAGE.md can be seen from the text. Runs in the project's root. */
public final class FaceTest {
    private static final List<String> IMPORTS = List.of("java.util.Arrays", "java.util.ArrayList", "java.util.List", "java.util.Iterator",
        "java.util.NoSuchElementException");
    private static int wrong = 0;

    private static void need(boolean isSo, String complaint) {
        if (!isSo) {
            wrong++;
            System.out.println("FaceTest: " + complaint);
        }
    }

    public static void main(String[] args) throws Exception {
        String doc = Files.readString(Path.of("../shared/DOC.md"));
        String source = Files.readString(Path.of("src/main/java/Rootwalk.java"));
        face(doc);
        members();
        text(source);
        System.out.println(wrong == 0 ? "FaceTest: the face is the document's" : "FaceTest: " + wrong + " complaints");
        if (wrong != 0) {
            System.exit(1);
        }
    }

    private static void face(String doc) {
        TreeSet<String> due = new TreeSet<>();
        String block = doc.substring(doc.indexOf("```java") + 7, doc.indexOf("```", doc.indexOf("```java") + 7));
        Matcher line = Pattern.compile("public (\\w+) (\\w+)\\((.*?)\\)( throws (.*))?;").matcher(block);
        while (line.find()) {
            StringBuilder types = new StringBuilder();
            for (String parameter : line.group(3).split(", ")) {
                types.append(parameter.split(" ")[0]).append(' ');
            }
            String thrown = line.group(5) == null ? "" : line.group(5);
            due.add(line.group(1) + " " + line.group(2) + "(" + types.toString().trim() + ") " + thrown);
        }
        TreeSet<String> got = new TreeSet<>();
        for (Method method : Rootwalk.class.getDeclaredMethods()) {
            if (Modifier.isPublic(method.getModifiers())) {
                List<String> types = new ArrayList<>();
                for (Class<?> type : method.getParameterTypes()) {
                    types.add(type.getSimpleName());
                }
                List<String> thrown = new ArrayList<>();
                for (Class<?> type : method.getExceptionTypes()) {
                    thrown.add(type.getSimpleName());
                }
                got.add(method.getReturnType().getSimpleName() + " " + method.getName() + "(" + String.join(" ", types) + ") "
                    + String.join(", ", thrown));
            }
        }
        need(due.size() == 48, "the document's face has " + due.size() + " methods");
        need(due.equals(got), "the face is " + got + "\ndue is " + due);
    }

    private static void members() {
        need(Modifier.isFinal(Rootwalk.class.getModifiers()), "the class is not final");
        Constructor<?>[] constructors = Rootwalk.class.getDeclaredConstructors();
        need(constructors.length == 1 && Modifier.isPublic(constructors[0].getModifiers()), "constructors");
        TreeSet<String> publics = new TreeSet<>();
        for (Method method : Rootwalk.class.getDeclaredMethods()) {
            int is = method.getModifiers();
            need(Modifier.isPublic(is) || Modifier.isPrivate(is), method + " is neither public nor private");
            if (Modifier.isPublic(is)) {
                publics.add(method.getName());
            }
        }
        List<Class<?>> classes = new ArrayList<>(List.of(Rootwalk.class.getDeclaredClasses()));
        need(classes.size() <= 11, "too many classes");
        classes.add(Rootwalk.class);
        for (Class<?> one : classes) {
            int fields = 0;
            for (Field field : one.getDeclaredFields()) {
                int is = field.getModifiers();
                need(one != Rootwalk.class || Modifier.isPrivate(is), field + " is not private");
                need(!Modifier.isStatic(is) || Modifier.isFinal(is), field + " is static and not final");
                fields += Modifier.isStatic(is) ? 0 : 1;
            }
            need(fields <= 20, one + " has " + fields + " fields");
            for (Method method : one.getDeclaredMethods()) {
                need(method.getParameterCount() <= 7, method + " takes too many parameters");
                need(!Modifier.isPrivate(method.getModifiers()) || !publics.contains(method.getName()), method + " bears the name of a public one");
            }
        }
    }

    private static void text(String source) {
        String code = source.replaceAll("(?s)/\\*.*?\\*/", "").replaceAll("//[^\n]*", "");
        // only what LANGUAGE.md forbids in whatever code it stands
        String[] banned = {
            "->", "::", "\\bfinally\\b", "\\bassert\\b", "\\bsynchronized\\b", "\\bprotected\\b", "\\w+Exact\\b", "\"\\s*\\+", "\\+\\s*\"",
            "\\bBigInteger\\b", "\\bBigDecimal\\b", "\\bString\\.\\w+", "\\bMath\\.(sqrt|pow|floor|ceil|random|round)\\b", "\\bObject\\b",
            "\\bhashCode\\b", "\\bgetMessage\\b", "\\bSystem\\.(?!arraycopy)", "\\bpackage\\b", "\\bThread\\b",
            "\\bthrow (?!new \\w+\\((\"[^\"]*\")?\\);)"
        };
        for (String pattern : banned) {
            Matcher found = Pattern.compile(pattern).matcher(code);
            need(!found.find(), "the source has " + pattern);
        }
        Matcher imported = Pattern.compile("import ([\\w.*]+);").matcher(code);
        while (imported.find()) {
            need(IMPORTS.contains(imported.group(1)), "the source imports " + imported.group(1));
        }
        need(source.chars().allMatch(c -> c < 128), "the source has a sign above 127");
    }
}
