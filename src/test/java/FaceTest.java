import java.lang.reflect.Constructor;
import java.lang.reflect.Field;
import java.lang.reflect.Method;
import java.lang.reflect.Modifier;
import java.util.ArrayList;
import java.util.Arrays;
import java.util.List;
import java.util.Set;
import java.util.TreeSet;

/** The class shows the face that the document writes out, and nothing else. */
public final class FaceTest {
    private static final String S = "IllegalStateException";
    private static final String A = S + ", IllegalArgumentException";
    private static final String I = A + ", IndexOutOfBoundsException";

    private static final String[] FACE = {
        "public static final int NONE",
        "public ElasticNets()",
        "public int block(int, int) throws " + A,
        "public int channel(int, int, int) throws " + A,
        "public int input(int) throws " + A,
        "public int output(int) throws " + A,
        "public int buffers(int, int) throws " + A,
        "public int build() throws " + S,
        "public int clear()",
        "public void restart() throws " + S,
        "public boolean offer(int, int) throws " + A,
        "public int tick(int) throws " + S,
        "public int run(int, int) throws " + A,
        "public int ticks() throws " + S,
        "public int turns(int) throws " + A,
        "public int got(int) throws " + A,
        "public int inside(int, int) throws " + A,
        "public int taken(int) throws " + A,
        "public int given(int) throws " + A,
        "public long value(int, int) throws " + I,
        "public int byClock(int, int) throws " + I,
        "public int rate(int) throws " + A,
    };

    private static int wrong = 0;

    private static void fault(String text) {
        wrong++;
        System.out.println(text);
    }

    public static void main(String[] args) {
        Class<?> face = ElasticNets.class;
        if (face.getModifiers() != (Modifier.PUBLIC | Modifier.FINAL)) {
            fault("the class is " + Modifier.toString(face.getModifiers()));
        }
        Set<String> want = new TreeSet<>(Arrays.asList(FACE));
        Set<String> have = new TreeSet<>(shown(face));
        for (String member : want) {
            if (!have.contains(member)) {
                fault("missing: " + member);
            }
        }
        for (String member : have) {
            if (!want.contains(member)) {
                fault("not of the face: " + member);
            }
        }
        namesAreNotUsedTwice(face);
        System.out.println(wrong == 0 ? "the face is as due" : wrong + " faults");
        if (wrong != 0) {
            System.exit(1);
        }
    }

    private static List<String> shown(Class<?> face) {
        List<String> members = new ArrayList<>();
        for (Field field : face.getDeclaredFields()) {
            if (!Modifier.isPrivate(field.getModifiers())) {
                members.add(Modifier.toString(field.getModifiers()) + " "
                        + field.getType().getSimpleName() + " " + field.getName());
            }
        }
        for (Constructor<?> made : face.getDeclaredConstructors()) {
            if (!Modifier.isPrivate(made.getModifiers())) {
                members.add(Modifier.toString(made.getModifiers()) + " " + face.getSimpleName()
                        + inBrackets(made.getParameterTypes()) + thrown(made.getExceptionTypes()));
            }
        }
        for (Method method : face.getDeclaredMethods()) {
            if (!Modifier.isPrivate(method.getModifiers())) {
                members.add(Modifier.toString(method.getModifiers()) + " "
                        + method.getReturnType().getSimpleName() + " " + method.getName()
                        + inBrackets(method.getParameterTypes()) + thrown(method.getExceptionTypes()));
            }
        }
        return members;
    }

    private static String inBrackets(Class<?>[] types) {
        return "(" + names(types) + ")";
    }

    private static String thrown(Class<?>[] types) {
        return types.length == 0 ? "" : " throws " + names(types);
    }

    private static String names(Class<?>[] types) {
        List<String> names = new ArrayList<>();
        for (Class<?> type : types) {
            names.add(type.getSimpleName());
        }
        return String.join(", ", names);
    }

    /** No private method bears the name of a public one, in the classes inside neither. */
    private static void namesAreNotUsedTwice(Class<?> face) {
        Set<String> used = new TreeSet<>();
        for (Method method : face.getDeclaredMethods()) {
            if (!Modifier.isPrivate(method.getModifiers()) && !used.add(method.getName())) {
                fault("twice on the face: " + method.getName());
            }
        }
        List<Class<?>> all = new ArrayList<>(Arrays.asList(face.getDeclaredClasses()));
        all.add(face);
        for (Class<?> each : all) {
            for (Method method : each.getDeclaredMethods()) {
                boolean ofFace = each == face && !Modifier.isPrivate(method.getModifiers());
                if (!ofFace && used.contains(method.getName())) {
                    fault("a name of the face is used again: " + each.getName() + "." + method.getName());
                }
            }
            if (each != face && (each.getModifiers() & (Modifier.PUBLIC | Modifier.PROTECTED)) != 0) {
                fault("a class inside is shown: " + each.getName());
            }
            if (each != face && !Modifier.isStatic(each.getModifiers())) {
                fault("a class inside is not static: " + each.getName());
            }
        }
    }
}
