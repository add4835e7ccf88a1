import java.lang.reflect.Constructor;
import java.lang.reflect.Field;
import java.lang.reflect.Method;
import java.lang.reflect.Modifier;
import java.util.Arrays;
import java.util.Set;
import java.util.TreeSet;

/** The public face as the document tells it: nothing is missing, and nothing else can be seen. */
public final class FaceTest {
    private static final String[] METHODS = {"int letter(int)", "int blank()", "int fault()", "int port()", "int sleeper(int,int)",
        "int tosser(int,int)", "int as(int,int)", "int lands(int,int)", "int covers(int,int)", "int toss(int,int)", "int wind(int)",
        "int morning()", "int move(int,int)", "int train(int,int,int)", "int stir(int)", "int all(int)", "int nights()",
        "int odds(int,int,int)", "int who(int)", "int see(int,int,int)", "int forget()", "int seasons(int,int,int)", "int image()",
        "int restore()", "int count(int)", "long digest()"};

    private FaceTest() {
    }

    public static void main(String[] args) {
        constants();
        methods();
        nothingElse();
        Checks.end("FaceTest");
    }

    // "NONE = -1, UNKNOWN = -101, OUTSIDE = -102, STATE = -103, FULL = -104".
    private static void constants() {
        Checks.same("face: NONE", PancakePort.NONE, -1);
        Checks.same("face: UNKNOWN", PancakePort.UNKNOWN, -101);
        Checks.same("face: OUTSIDE", PancakePort.OUTSIDE, -102);
        Checks.same("face: STATE", PancakePort.STATE, -103);
        Checks.same("face: FULL", PancakePort.FULL, -104);
        Set<String> seen = new TreeSet<>();
        for (Field field : PancakePort.class.getDeclaredFields()) {
            if (!Modifier.isPrivate(field.getModifiers())) {
                seen.add(Modifier.toString(field.getModifiers()) + " " + field.getType() + " " + field.getName());
            }
        }
        String plain = "public static final int ";
        sameSet("constants", seen, plain + "NONE", plain + "UNKNOWN", plain + "OUTSIDE", plain + "STATE", plain + "FULL");
    }

    private static void methods() {
        Set<String> seen = new TreeSet<>();
        Set<String> hidden = new TreeSet<>();
        for (Method method : PancakePort.class.getDeclaredMethods()) {
            String parameters = Arrays.toString(method.getParameterTypes()).replaceAll("[\\[\\] ]", "");
            boolean open = method.getModifiers() == Modifier.PUBLIC;
            if (open) {
                seen.add(method.getReturnType() + " " + method.getName() + "(" + parameters + ")");
            } else if (!method.isSynthetic()) {
                Checks.same("face: " + method + " is private", Modifier.isPrivate(method.getModifiers()) ? 1 : 0, 1);
                hidden.add(method.getName());
            }
        }
        sameSet("methods", seen, METHODS);
        for (String method : METHODS) {
            String name = method.substring(method.indexOf(' ') + 1, method.indexOf('('));
            Checks.same("face: a private method named " + name, hidden.contains(name) ? 1 : 0, 0);
        }
    }

    private static void nothingElse() {
        Checks.same("face: public and final", PancakePort.class.getModifiers(), Modifier.PUBLIC | Modifier.FINAL);
        Constructor<?>[] constructors = PancakePort.class.getDeclaredConstructors();
        Checks.same("face: one constructor", constructors.length, 1);
        Checks.same("face: it is public", constructors[0].getModifiers(), Modifier.PUBLIC);
        Checks.same("face: it takes nothing", constructors[0].getParameterCount(), 0);
        Checks.same("face: nothing is extended", PancakePort.class.getSuperclass() == Object.class ? 1 : 0, 1);
        Checks.same("face: nothing is implemented", PancakePort.class.getInterfaces().length, 0);
    }

    private static void sameSet(String what, Set<String> seen, String... due) {
        Set<String> missing = new TreeSet<>(Arrays.asList(due));
        missing.removeAll(seen);
        Checks.same("face: missing " + what + " " + missing, missing.size(), 0);
        Checks.same("face: " + what + " in all " + seen, seen.size(), due.length);
    }
}
