import java.io.IOException;
import java.lang.reflect.Method;
import java.nio.file.Files;
import java.nio.file.Path;
import java.util.TreeSet;
import java.util.regex.Matcher;
import java.util.regex.Pattern;

/** The example of README.md: each call of it answers what stands behind it. */
public final class ReadmeTest {
    private static final Pattern CALL = Pattern.compile("bench\\.(\\w+)\\((.*?)\\);\\s*// (\\S+): .*");

    private static final Due due = new Due();
    private static final TunerBench bench = new TunerBench();

    public static void main(String[] args) throws IOException, ReflectiveOperationException {
        TreeSet<String> shown = new TreeSet<>();
        for (String line : Files.readAllLines(Path.of("README.md"))) {
            if (line.startsWith("bench.")) {
                shown.add(call(line));
            }
        }
        due.is("the methods that README.md shows", shown.toString(), faceMethods().toString());
        due.end();
    }

    private static String call(String line) throws ReflectiveOperationException {
        Matcher parts = CALL.matcher(line);
        if (!parts.matches()) {
            due.is("README.md: " + line, "no call with an answer", "one");
            return "";
        }
        String name = parts.group(1);
        String[] texts = parts.group(2).isEmpty() ? new String[0] : parts.group(2).split(", ");
        Object answer = method(name).invoke(bench, arguments(texts));
        due.is("README.md: " + name + "(" + parts.group(2) + ")", answer.toString(), parts.group(3));
        return name;
    }

    private static Object[] arguments(String[] texts) {
        Object[] values = new Object[texts.length];
        for (int k = 0; k < texts.length; k++) {
            boolean isTruth = texts[k].equals("true") || texts[k].equals("false");
            values[k] = isTruth ? (Object) Boolean.valueOf(texts[k]) : (Object) Integer.valueOf(texts[k]);
        }
        return values;
    }

    private static Method method(String name) throws NoSuchMethodException {
        for (Method one : TunerBench.class.getMethods()) {
            if (one.getName().equals(name)) {
                return one;
            }
        }
        throw new NoSuchMethodException(name);
    }

    private static TreeSet<String> faceMethods() {
        TreeSet<String> names = new TreeSet<>();
        for (Method one : TunerBench.class.getMethods()) {
            if (one.getDeclaringClass() == TunerBench.class) {
                names.add(one.getName());
            }
        }
        return names;
    }
}
