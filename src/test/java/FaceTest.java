import java.lang.reflect.Constructor;
import java.lang.reflect.Field;
import java.lang.reflect.Member;
import java.lang.reflect.Method;
import java.lang.reflect.Modifier;
import java.util.Arrays;
import java.util.TreeSet;

/** The public face of the document: every member of it, and no other that is not private. */
public final class FaceTest {
    private static final String[] FACE = {
        "public TunerBench()",
        "public boolean TunerBench.guard(int,int,int,int,int)",
        "public boolean TunerBench.put(int,int,int,int)",
        "public boolean TunerBench.strike(int)",
        "public int TunerBench.best(int,int,boolean)",
        "public int TunerBench.climb(int,int,int)",
        "public int TunerBench.count(int)",
        "public int TunerBench.denies(int,int,int,int)",
        "public int TunerBench.first(int,int,int,boolean)",
        "public int TunerBench.holds(int,int,int,int)",
        "public int TunerBench.look()",
        "public int TunerBench.pass(int,int,int,int)",
        "public int TunerBench.pick(int,int,int,int)",
        "public int TunerBench.quarters(int,int)",
        "public int TunerBench.rings(int)",
        "public int TunerBench.sort(int,int)",
        "public int TunerBench.within(int,int,int,int)",
        "public static final int TunerBench.NONE",
    };

    public static void main(String[] args) {
        Due due = new Due();
        due.is("the class", Modifier.toString(TunerBench.class.getModifiers()), "public final");
        due.is("the face", membersNotPrivate().toString(), new TreeSet<>(Arrays.asList(FACE)).toString());
        due.end();
    }

    private static TreeSet<String> membersNotPrivate() {
        TreeSet<String> found = new TreeSet<>();
        for (Constructor<?> one : TunerBench.class.getDeclaredConstructors()) {
            addIfSeen(found, one, one.toString());
        }
        for (Method one : TunerBench.class.getDeclaredMethods()) {
            addIfSeen(found, one, one.toString());
        }
        for (Field one : TunerBench.class.getDeclaredFields()) {
            addIfSeen(found, one, one.toString());
        }
        return found;
    }

    private static void addIfSeen(TreeSet<String> found, Member one, String text) {
        if (!Modifier.isPrivate(one.getModifiers())) {
            found.add(text);
        }
    }
}
