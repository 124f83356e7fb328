import java.lang.reflect.Constructor;
import java.lang.reflect.Field;
import java.lang.reflect.Method;
import java.lang.reflect.Modifier;
import java.util.Arrays;
import java.util.TreeSet;

/** The class shows the document's face, and nothing beside it. */
public final class FaceTest {
    private static final String INDEX = "IndexOutOfBoundsException";
    private static final String ARGUMENT = "IllegalArgumentException";
    private static final String STATE = "IllegalStateException";

    private static final String[] FACE = {
        "int addGate 2 " + ARGUMENT + " " + STATE,
        "int addGoat 1 " + ARGUMENT + " " + STATE,
        "int ask 5 " + INDEX + " " + ARGUMENT + " " + STATE,
        "int barge 4 " + INDEX + " " + ARGUMENT + " " + STATE,
        "int callBack 1 " + INDEX + " " + STATE,
        "int pass 1 " + ARGUMENT,
        "int minute 0", "int gates 0", "int goats 0", "int waiting 0", "int inside 0",
        "int starving 0", "int letIn 0", "int givenUp 0",
        "int permitsOf 1 " + INDEX, "int freeOf 1 " + INDEX,
        "int waitingAt 1 " + INDEX, "int nextAt 1 " + INDEX,
        "int stateOf 1 " + INDEX, "int gateOf 1 " + INDEX, "int holds 1 " + INDEX,
        "int seemingHorns 1 " + INDEX, "int minutesLeft 1 " + INDEX, "int waitedOf 1 " + INDEX,
        "int placeInLine 1 " + INDEX, "int minutesUntilIn 1 " + INDEX,
        "int givingUpIn 1 " + ARGUMENT,
        "int permitsWanted 1 " + INDEX, "int bestOrder 1 " + INDEX,
        "double meanWaited 0", "long digest 0",
    };

    private FaceTest() {
    }

    public static void main(String[] args) {
        Checks checks = new Checks();
        Class<?> face = GoatTower.class;
        checks.isTrue("public final", Modifier.isPublic(face.getModifiers()) && Modifier.isFinal(face.getModifiers()));
        TreeSet<String> got = new TreeSet<>();
        TreeSet<String> hidden = new TreeSet<>();
        for (Method m : face.getDeclaredMethods()) {
            if (Modifier.isPrivate(m.getModifiers())) {
                hidden.add(m.getName());
                continue;
            }
            checks.isTrue(m + " is public, and no static one", Modifier.isPublic(m.getModifiers()) && !Modifier.isStatic(m.getModifiers()));
            got.add(describe(m, checks));
        }
        checks.same("the face", got.toString(), new TreeSet<>(Arrays.asList(FACE)).toString());
        for (String line : FACE) {
            checks.isTrue("a private method bears a public name: " + line, !hidden.contains(line.split(" ")[1]));
        }
        for (Field f : face.getDeclaredFields()) {
            checks.isTrue(f + " is private", Modifier.isPrivate(f.getModifiers()));
        }
        Constructor<?>[] makers = face.getDeclaredConstructors();
        checks.same("constructors", makers.length, 1);
        checks.isTrue("the constructor is public, without parameters",
            Modifier.isPublic(makers[0].getModifiers()) && makers[0].getParameterCount() == 0);
        checks.end("FaceTest");
    }

    private static String describe(Method m, Checks checks) {
        StringBuilder s = new StringBuilder(m.getReturnType().getName());
        s.append(' ').append(m.getName()).append(' ').append(m.getParameterCount());
        for (Class<?> type : m.getParameterTypes()) {
            checks.isTrue(m + " takes whole numbers", type == int.class);
        }
        for (Class<?> type : m.getExceptionTypes()) {
            s.append(' ').append(type.getSimpleName());
        }
        return s.toString();
    }
}
