import java.io.IOException;
import java.lang.reflect.Method;
import java.lang.reflect.Modifier;
import java.nio.file.Files;
import java.nio.file.Path;
import java.util.Arrays;
import java.util.Set;
import java.util.TreeSet;
import java.util.regex.Matcher;
import java.util.regex.Pattern;

/** README.md: each call of its example answers the number behind it, and no call of the class is left out. */
public final class ReadmeTest {
    private static final Pattern TEXT = Pattern.compile("String text = \"([^\"]*)\";");
    private static final Pattern CALL = Pattern.compile("(?m)^port\\.(\\w+)\\(([-\\d, ]*)\\); +// (-?\\d+)\\b");
    private static final Pattern TOLD = Pattern.compile("`(\\w+)`");

    private ReadmeTest() {
    }

    public static void main(String[] args) throws IOException, ReflectiveOperationException {
        String readme = Files.readString(Path.of("README.md"));
        Matcher text = TEXT.matcher(readme);
        Checks.same("README: a port's text", text.find() ? 1 : 0, 1);
        PancakePort port = new PancakePort();
        Checks.write(port, text.group(1));
        int calls = 0;
        for (Matcher call = CALL.matcher(readme); call.find(); calls++) {
            Checks.same("README: " + call.group(), answer(port, call.group(1), call.group(2)), Integer.parseInt(call.group(3)));
        }
        Checks.same("README: calls that tell their answers", calls >= 20 ? 1 : 0, 1);
        everyCallIsTold(readme);
        Checks.end("ReadmeTest");
    }

    private static int answer(PancakePort port, String name, String numbers) throws ReflectiveOperationException {
        Object[] given = Arrays.stream(numbers.split(", ")).filter(n -> !n.isEmpty()).map(Integer::valueOf).toArray();
        Class<?>[] types = new Class<?>[given.length];
        Arrays.fill(types, int.class);
        return (Integer) PancakePort.class.getMethod(name, types).invoke(port, given);
    }

    private static void everyCallIsTold(String readme) {
        Set<String> told = new TreeSet<>();
        for (Matcher word = TOLD.matcher(readme); word.find();) {
            told.add(word.group(1));
        }
        for (Method method : PancakePort.class.getDeclaredMethods()) {
            if (Modifier.isPublic(method.getModifiers())) {
                Checks.same("README: " + method.getName() + " is told", told.contains(method.getName()) ? 1 : 0, 1);
            }
        }
    }
}
