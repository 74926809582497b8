import java.io.IOException;
import java.lang.reflect.Method;
import java.lang.reflect.Modifier;
import java.nio.file.Files;
import java.nio.file.Path;
import java.util.regex.Matcher;
import java.util.regex.Pattern;

/** What README.md shows is so: the calls answer as it says, and it names every method and every finding. */
final class ReadmeTest {
    private static final Pattern SHOWN = Pattern.compile("(?m)^x\\.(\\w+)\\(([^)]*)\\);\\s*// (-?\\d+): ");

    private ReadmeTest() {
    }

    static void run() throws IOException, ReflectiveOperationException {
        String readme = Files.readString(Path.of("README.md"));
        Matcher shown = SHOWN.matcher(readme);
        WordSupper x = new WordSupper();
        int calls = 0;
        while (shown.find()) {
            calls++;
            long answered = call(x, shown.group(1), shown.group(2));
            Check.due("README.md: " + shown.group(), answered, Long.parseLong(shown.group(3)));
        }
        Check.due("README.md: calls shown", calls, readme.split("(?m)^x\\.", -1).length - 1);
        namesEachMethod(readme);
        namesEachFinding(readme);
    }

    private static long call(WordSupper x, String name, String arguments) throws ReflectiveOperationException {
        String[] told = arguments.isEmpty() ? new String[0] : arguments.split(", ");
        Object[] values = new Object[told.length];
        for (int i = 0; i < told.length; i++) {
            values[i] = Integer.decode(told[i]);
        }
        return ((Number) method(name).invoke(x, values)).longValue();
    }

    private static Method method(String name) throws NoSuchMethodException {
        for (Method method : WordSupper.class.getDeclaredMethods()) {
            if (Modifier.isPublic(method.getModifiers()) && method.getName().equals(name)) {
                return method;
            }
        }
        throw new NoSuchMethodException(name);
    }

    private static void namesEachMethod(String readme) {
        for (Method method : WordSupper.class.getDeclaredMethods()) {
            if (Modifier.isPublic(method.getModifiers())) {
                Matcher row = Pattern.compile("(?m)^\\| `" + method.getName() + "\\(([^)]*)\\)` \\| .+ \\|$").matcher(readme);
                boolean isTold = row.find();
                int arguments = !isTold ? -1 : row.group(1).isEmpty() ? 0 : row.group(1).split(", ").length;
                Check.due("README.md: arguments of " + method.getName(), arguments, method.getParameterCount());
            }
        }
    }

    private static void namesEachFinding(String readme) {
        String[] names = {"BEYOND", "FULL", "KIND", "NONE", "STATE", "MISSING", "SIZE"};
        for (int i = 0; i < names.length; i++) {
            String row = "\n| " + names[i] + " | " + (Check.BEYOND - i) + " | ";
            Check.due("README.md: " + names[i], readme.contains(row) ? 1 : 0, 1);
        }
    }
}
