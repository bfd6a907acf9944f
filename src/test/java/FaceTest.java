import java.lang.reflect.Method;
import java.lang.reflect.Modifier;
import java.util.TreeSet;

/** The face: what the document writes under 'The public face', and nothing else that can be seen from outside. */
public final class FaceTest {
    private static final Due due = new Due("FaceTest");

    private static final String[] FACE = {
        "int make(int, int, int, int)", "int add(int, long)", "int ring(int, int, int, long)", "int empty(int)",
        "int look(int, int)", "long word(int, int) throws", "long size(int)", "int in(int, long)",
        "long sum(int, int, long, long, int)", "int way(int, int, long, long)", "int product(int, int, long, long)",
        "int form(int)", "int head(int, int)", "int dual(int, int)", "long checks(int, long)", "int least(int)",
        "long weights(int, int)", "long law(int, int) throws", "int beat(int)", "long bound(int, int, int, int)",
        "long read(int, long, int)", "int near(int, long, int)", "int cover(int)", "long hole(int)",
        "int whole(int)", "int longer(int, int)", "int cut(int, int, int)", "int shorter(int, int, int)",
        "int join(int, int, int, int)", "int list(int, int)", "int turn(int, long, int, int)", "int same(int, int)",
        "int design(int, int, int)", "int keep(int, int, int, int)", "int row(int, int, int)",
        "long element(int, int) throws", "int copy(int, int, int, int, int)", "int heft(int)", "int toss(int)",
    };

    public static void main(String[] args) {
        TreeSet<String> face = new TreeSet<>(java.util.Arrays.asList(FACE));
        TreeSet<String> names = new TreeSet<>();
        for (Method m : WordBench.class.getDeclaredMethods()) {
            if (Modifier.isPublic(m.getModifiers())) {
                names.add(m.getName());
                due.is(told(m) + " is of the face", face.remove(told(m)) ? 1 : 0, 1);
            }
        }
        due.is("missing of the face: " + face, face.size(), 0);
        for (Method m : WordBench.class.getDeclaredMethods()) {
            if (!Modifier.isPublic(m.getModifiers()) && !m.isSynthetic()) {
                due.is(m + " is private", Modifier.isPrivate(m.getModifiers()) ? 1 : 0, 1);
                due.is(m + " has a name of its own", names.contains(m.getName()) ? 1 : 0, 0);
            }
        }
        for (java.lang.reflect.Field f : WordBench.class.getDeclaredFields()) {
            due.is(f + " is private", Modifier.isPrivate(f.getModifiers()) ? 1 : 0, 1);
        }
        due.is("constructors", WordBench.class.getConstructors().length, 1);
        due.is("all constructors", WordBench.class.getDeclaredConstructors().length, 1);
        due.is("final", Modifier.isFinal(WordBench.class.getModifiers()) ? 1 : 0, 1);
        due.is("public", Modifier.isPublic(WordBench.class.getModifiers()) ? 1 : 0, 1);
        due.end();
    }

    private static String told(Method m) {
        StringBuilder text = new StringBuilder(m.getReturnType() + " " + m.getName() + "(");
        String between = "";
        for (Class<?> type : m.getParameterTypes()) {
            text.append(between).append(type);
            between = ", ";
        }
        return text + (m.getExceptionTypes().length == 2 ? ") throws" : ")");
    }
}
