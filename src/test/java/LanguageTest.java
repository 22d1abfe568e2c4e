import java.io.IOException;
import java.lang.reflect.Field;
import java.lang.reflect.Method;
import java.lang.reflect.Modifier;
import java.nio.file.Files;
import java.nio.file.Path;
import java.util.ArrayList;
import java.util.List;
import java.util.TreeSet;
import java.util.regex.Matcher;
import java.util.regex.Pattern;

/** Those rules of LANGUAGE.md that can be seen in the program's text or by reflection. */
public final class LanguageTest {
    private static final Path PROGRAM = Path.of("src/main/java/TunerBench.java");
    private static final String[] WORDS_NOT_TAKEN = {
        "package", "protected", "throw", "throws", "try", "catch", "finally", "synchronized", "assert",
        "volatile", "native", "Object", "Exception", "Thread", "Random", "hashCode",
    };
    private static final String[] SIGNS_NOT_TAKEN = {"->", "::", "Exact(", "static {"};
    private static final List<String> IMPORTS_TAKEN = List.of(
        "java.util.ArrayList", "java.util.Arrays", "java.util.Iterator", "java.util.List");
    private static final int MOST_PARAMETERS = 7;
    private static final int MOST_LINES = 60;
    private static final int MOST_CLASSES = 12;
    private static final int MOST_FIELDS = 20;

    private static final Due due = new Due();

    public static void main(String[] args) throws IOException {
        String text = withoutComments(Files.readString(PROGRAM));
        wordsAndSigns(text);
        imports(text);
        List<Class<?>> classes = classes();
        lengths(text, classes);
        due.is("rule 11: some twelve classes", classes.size() <= MOST_CLASSES, true);
        for (Class<?> one : classes) {
            nesting(one);
            methods(one);
            fields(one);
        }
        due.end();
    }

    private static String withoutComments(String text) {
        return text.replaceAll("(?s)/\\*.*?\\*/", "").replaceAll("//[^\n]*", "");
    }

    private static void wordsAndSigns(String text) {
        for (String word : WORDS_NOT_TAKEN) {
            due.is("the word " + word, Pattern.compile("\\b" + word + "\\b").matcher(text).find(), false);
        }
        for (String sign : SIGNS_NOT_TAKEN) {
            due.is("the sign " + sign, text.contains(sign), false);
        }
    }

    private static void imports(String text) {
        Matcher found = Pattern.compile("import ([^;]*);").matcher(text);
        while (found.find()) {
            due.is("rule 4: import " + found.group(1), IMPORTS_TAKEN.contains(found.group(1)), true);
        }
    }

    /** A method starts at a line that ends with its brace, four or eight deep, and ends at a brace as deep. */
    private static void lengths(String text, List<Class<?>> classes) {
        Pattern head = Pattern.compile("(?m)^( {4}| {8})(?:public|private)\\b[^;=\n]*\\) \\{$");
        Matcher found = head.matcher(text);
        int heads = 0;
        while (found.find()) {
            int end = text.indexOf("\n" + found.group(1) + "}", found.end());
            long lines = text.substring(found.start(), end).lines().count() + 1;
            due.is("rule 11: short enough, " + found.group().trim(), lines <= MOST_LINES, true);
            heads++;
        }
        int declared = 0;
        for (Class<?> one : classes) {
            declared += one.getDeclaredMethods().length + one.getDeclaredConstructors().length;
        }
        due.is("rule 11: methods and constructors seen in the text", heads, declared);
    }

    private static List<Class<?>> classes() {
        List<Class<?>> found = new ArrayList<>();
        found.add(TunerBench.class);
        for (int k = 0; k < found.size(); k++) {
            found.addAll(List.of(found.get(k).getDeclaredClasses()));
        }
        return found;
    }

    private static void nesting(Class<?> one) {
        int flags = one.getModifiers();
        if (one != TunerBench.class) {
            due.is("rule 1: static, " + one, Modifier.isStatic(flags), true);
            due.is("rule 1: private or package-visible, " + one, Modifier.isPublic(flags) || Modifier.isProtected(flags), false);
        }
    }

    private static void methods(Class<?> one) {
        TreeSet<String> publicNames = new TreeSet<>();
        for (Method method : one.getDeclaredMethods()) {
            if (Modifier.isPublic(method.getModifiers())) {
                publicNames.add(method.getName());
            }
        }
        for (Method method : one.getDeclaredMethods()) {
            due.is("rule 11: parameters, " + method, method.getParameterCount() <= MOST_PARAMETERS, true);
            boolean isPrivate = Modifier.isPrivate(method.getModifiers());
            due.is("rule 1: a name of its own, " + method, isPrivate && publicNames.contains(method.getName()), false);
        }
    }

    private static void fields(Class<?> one) {
        int own = 0;
        for (Field field : one.getDeclaredFields()) {
            if (Modifier.isStatic(field.getModifiers())) {
                due.is("rule 5: final, " + field, Modifier.isFinal(field.getModifiers()), true);
            } else {
                own++;
            }
        }
        due.is("rule 11: some twenty fields, " + one, own <= MOST_FIELDS, true);
    }
}
