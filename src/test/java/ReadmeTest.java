import java.lang.reflect.Method;
import java.lang.reflect.Modifier;
import java.nio.file.Files;
import java.nio.file.Path;
import java.util.HashMap;
import java.util.List;
import java.util.Map;
import java.util.regex.Matcher;
import java.util.regex.Pattern;
import java.util.stream.Collectors;
import java.util.stream.Stream;

/** What README.md says of the class: the answers that it shows are those that come. */
public final class ReadmeTest {
    private static final Path PAGE = Path.of("README.md");
    private static final Path TESTS = Path.of("src/test/java");
    private static final Pattern MADE = Pattern.compile("FiniteMatrices x = new FiniteMatrices\\(\\);.*");
    private static final Pattern CALL = Pattern.compile("x\\.(\\w+)\\(([^)]*)\\); +// (-?\\d+).*");
    private static final int LEAST_CALLS = 20;

    private final Map<String, Method> face = new HashMap<>();
    private FiniteMatrices x = null;
    private int calls = 0;

    private ReadmeTest() {
        for (Method method : FiniteMatrices.class.getDeclaredMethods()) {
            if (Modifier.isPublic(method.getModifiers())) {
                face.put(method.getName(), method);
            }
        }
    }

    private static Object[] arguments(Class<?>[] types, String written) {
        String[] numbers = written.isEmpty() ? new String[0] : written.split(", ");
        Object[] arguments = new Object[types.length];
        Check.holds("as many arguments as the call has: " + written, numbers.length == types.length);
        for (int k = 0; k < types.length; k++) {
            long number = Long.parseLong(numbers[k].replace("L", ""));
            arguments[k] = types[k] == long.class ? (Object) number : (Object) Math.toIntExact(number);
        }
        return arguments;
    }

    private void line(String line) throws ReflectiveOperationException {
        Matcher call = CALL.matcher(line);
        if (MADE.matcher(line).matches()) {
            x = new FiniteMatrices();
        } else if (call.matches()) {
            Method method = face.get(call.group(1));
            Object answer = method.invoke(x, arguments(method.getParameterTypes(), call.group(2)));
            Check.due("README.md: " + line, ((Number) answer).longValue(), Long.parseLong(call.group(3)));
            calls++;
        } else {
            Check.holds("README.md: a call with its answer: " + line, !line.startsWith("x."));
        }
    }

    private void answers(String page) throws ReflectiveOperationException {
        for (String line : page.split("\n")) {
            line(line);
        }
        Check.holds("README.md shows calls: " + calls, calls >= LEAST_CALLS);
    }

    private void nothingLeftOut(String page) throws Exception {
        for (String name : face.keySet()) {
            Check.holds("README.md names " + name, page.contains("`" + name + "`"));
        }
        List<Path> tests;
        try (Stream<Path> files = Files.list(TESTS)) {
            tests = files.filter(file -> file.toString().endsWith("Test.java")).collect(Collectors.toList());
        }
        Check.holds("there are tests", !tests.isEmpty());
        for (Path file : tests) {
            String name = file.getFileName().toString().replace(".java", "");
            Check.holds("README.md names " + name, page.contains("`" + name + "`"));
        }
    }

    public static void main(String[] args) throws Exception {
        String page = Files.readString(PAGE);
        ReadmeTest test = new ReadmeTest();
        test.answers(page);
        test.nothingLeftOut(page);
        Check.finish();
    }
}
