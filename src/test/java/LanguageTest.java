import java.io.IOException;
import java.lang.reflect.Field;
import java.lang.reflect.Method;
import java.lang.reflect.Modifier;
import java.nio.file.Files;
import java.nio.file.Path;
import java.util.ArrayList;
import java.util.Arrays;
import java.util.List;
import java.util.Set;
import java.util.TreeSet;
import java.util.regex.Matcher;
import java.util.regex.Pattern;

/** The rules of LANGUAGE.md, as far as the text of the class or its members show them. Run from the project's folder. */
public final class LanguageTest {
    private static final Set<String> IMPORTS = Set.of("java.util.ArrayList", "java.util.List", "java.util.Arrays",
        "java.util.Iterator");
    private static final Set<String> CONSTANT_TYPES = Set.of("int", "long", "boolean", "char", "java.lang.String",
        "[I", "[J", "[C", "[B");
    private static final Set<String> LIBRARY = Set.of("Math.max", "Math.min", "Math.abs", "System.arraycopy",
        "Arrays.fill", "Arrays.copyOf", "Arrays.copyOfRange");
    private static final Pattern LIBRARY_USE = Pattern.compile("\\b(Math|System|Arrays|Integer|Long|List)\\.\\w+");
    private static final Pattern WORDS_LEFT_OUT = Pattern.compile("\\b(package|protected|throws?|try|catch|finally"
        + "|synchronized|assert|native|volatile|hashCode|toString|Object|Thread|Random|var)\\b|->|::|static\\s*\\{");
    private static final Pattern ANONYMOUS = Pattern.compile("\\bnew\\s+\\w+(<\\w*>)?\\([^;]*?\\)\\s*\\{");
    private static final Pattern IMPORT = Pattern.compile("(?m)^import (.+);$");
    private static final Pattern METHOD = Pattern.compile("^( +)(?! |(?:if|for|while|switch)\\b)"
        + "[\\w<>\\[\\] ]+\\(.*\\) \\{$");

    public static void main(String[] args) throws IOException {
        String text = Files.readString(Path.of("src/main/java/StripeFiles.java"));
        Due.is("characters beyond ASCII", text.chars().filter(c -> c > 126).count(), 0);
        String code = text.replaceAll("(?s)/\\*.*?\\*/", "").replaceAll("//.*", "");
        textKeepsToTheRules(code);
        methodsAreShort(code);
        List<Class<?>> classes = new ArrayList<>(List.of(StripeFiles.class));
        classes.addAll(Arrays.asList(StripeFiles.class.getDeclaredClasses()));
        Due.is("at most twelve classes", classes.size() <= 12 ? 1 : 0, 1);
        for (Class<?> one : classes) {
            classIsClosed(one);
            fieldsKeepToTheRules(one);
            methodsKeepToTheRules(one);
        }
        Due.finish();
    }

    private static void textKeepsToTheRules(String code) {
        Due.same("words left out", found(WORDS_LEFT_OUT, code).toString(), "[]");
        Due.same("anonymous classes", found(ANONYMOUS, code).toString(), "[]");
        TreeSet<String> used = found(LIBRARY_USE, code);
        used.removeAll(LIBRARY);
        Due.same("library beyond the list", used.toString(), "[]");
        Matcher imported = IMPORT.matcher(code);
        while (imported.find()) {
            Due.is("import " + imported.group(1), IMPORTS.contains(imported.group(1)) ? 1 : 0, 1);
        }
    }

    private static TreeSet<String> found(Pattern pattern, String code) {
        TreeSet<String> all = new TreeSet<>();
        Matcher each = pattern.matcher(code);
        while (each.find()) {
            all.add(each.group());
        }
        return all;
    }

    private static void methodsAreShort(String code) {
        String[] lines = code.split("\n");
        int methods = 0;
        for (int i = 0; i < lines.length; i++) {
            Matcher head = METHOD.matcher(lines[i]);
            if (head.matches()) {
                int last = i;
                while (last < lines.length && !lines[last].equals(head.group(1) + "}")) {
                    last++;
                }
                Due.is("at most sixty lines:" + lines[i], last - i < 60 ? 1 : 0, 1);
                methods++;
            }
        }
        Due.is("methods are seen", methods > 50 ? 1 : 0, 1);
    }

    private static void classIsClosed(Class<?> one) {
        if (one != StripeFiles.class) {
            int modifiers = one.getModifiers();
            Due.is(one + " is static", Modifier.isStatic(modifiers) ? 1 : 0, 1);
            Due.is(one + " is public or protected", modifiers & (Modifier.PUBLIC | Modifier.PROTECTED), 0);
            Due.is("classes inside " + one, one.getDeclaredClasses().length, 0);
        }
    }

    private static void fieldsKeepToTheRules(Class<?> one) {
        int own = 0;
        for (Field field : one.getDeclaredFields()) {
            if (Modifier.isStatic(field.getModifiers())) {
                Due.is(field + " is final", Modifier.isFinal(field.getModifiers()) ? 1 : 0, 1);
                String type = field.getType().getName();
                Due.is(field + " is a constant", CONSTANT_TYPES.contains(type) ? 1 : 0, 1);
            } else {
                own++;
            }
        }
        Due.is("at most twenty fields in " + one, own <= 20 ? 1 : 0, 1);
    }

    private static void methodsKeepToTheRules(Class<?> one) {
        Set<String> face = Set.of("feed", "end", "name", "run", "told", "file", "piece", "count");
        for (Method method : one.getDeclaredMethods()) {
            Due.is("at most seven parameters: " + method, method.getParameterCount() <= 7 ? 1 : 0, 1);
            boolean isFace = one == StripeFiles.class && Modifier.isPublic(method.getModifiers());
            Due.is("a name of the face: " + method, face.contains(method.getName()) == isFace ? 1 : 0, 1);
        }
    }
}
