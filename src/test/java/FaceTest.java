import java.lang.reflect.Constructor;
import java.lang.reflect.Field;
import java.lang.reflect.Method;
import java.lang.reflect.Modifier;
import java.util.Set;
import java.util.TreeSet;

/** The class has the document's public face, and nothing beside it that is not private. */
public final class FaceTest {
    private static final Set<String> METHODS = Set.of(
        "int find(int)", "boolean begin(int)", "long read(int,int)", "long range(int,int,int)",
        "boolean write(int,int,int)", "boolean commit(int)", "boolean giveUp(int)", "int status(int)",
        "int messages()", "int message(int)", "int deliver(int)", "boolean lose(int)",
        "boolean stop(int,int)", "boolean start(int,int)", "int pull(int,int)", "int push(int)",
        "int recover(int)", "int log(int)", "int storage(int)", "int master(int)",
        "int committed(int)", "int coordinator(int)");
    private static final Set<String> CONSTANTS = Set.of("int NONE", "long DOWN", "long LATE", "long OLD");

    private static final Due DUE = new Due("FaceTest");

    public static void main(String[] args) {
        DUE.is("public", Modifier.isPublic(EpochStore.class.getModifiers()), true);
        DUE.is("final", Modifier.isFinal(EpochStore.class.getModifiers()), true);
        methods();
        constants();
        constructors();
        values();
        DUE.end();
    }

    private static void methods() {
        Set<String> found = new TreeSet<>();
        Set<String> names = new TreeSet<>();
        for (Method m : EpochStore.class.getDeclaredMethods()) {
            if (!Modifier.isPrivate(m.getModifiers())) {
                found.add(described(m));
                names.add(m.getName());
                DUE.is(m.getName() + " is static", Modifier.isStatic(m.getModifiers()), false);
            }
        }
        DUE.is("methods " + found, found.equals(METHODS), true);
        for (Method m : EpochStore.class.getDeclaredMethods()) {
            if (Modifier.isPrivate(m.getModifiers())) {
                DUE.is("private " + m.getName(), names.contains(m.getName()), false);
            }
        }
    }

    private static String described(Method m) {
        StringBuilder text = new StringBuilder(m.getReturnType() + " " + m.getName() + "(");
        for (Class<?> type : m.getParameterTypes()) {
            text.append(text.charAt(text.length() - 1) == '(' ? "" : ",").append(type);
        }
        return text.append(")").toString();
    }

    private static void constants() {
        Set<String> found = new TreeSet<>();
        for (Field f : EpochStore.class.getDeclaredFields()) {
            if (!Modifier.isPrivate(f.getModifiers())) {
                found.add(f.getType() + " " + f.getName());
            }
            if (Modifier.isStatic(f.getModifiers())) {
                DUE.is(f.getName() + " is final", Modifier.isFinal(f.getModifiers()), true);
            }
        }
        DUE.is("constants " + found, found.equals(CONSTANTS), true);
    }

    private static void constructors() {
        Constructor<?>[] all = EpochStore.class.getDeclaredConstructors();
        DUE.is("constructors", all.length, 1);
        DUE.is("parameters", all[0].getParameterCount(), 0);
        DUE.is("public constructor", Modifier.isPublic(all[0].getModifiers()), true);
    }

    private static void values() {
        DUE.is("NONE", EpochStore.NONE, -1);
        DUE.is("DOWN", EpochStore.DOWN, 1099511627776L);
        DUE.is("LATE", EpochStore.LATE, 1099511627777L);
        DUE.is("OLD", EpochStore.OLD, 1099511627778L);
    }
}
