import java.lang.reflect.InvocationTargetException;
import java.lang.reflect.Method;
import java.nio.file.Files;
import java.nio.file.Path;
import java.util.List;
import java.util.regex.Matcher;
import java.util.regex.Pattern;
import java.util.stream.Stream;

/** README.md: its example answers as its comments say, and it names every call and every test. */
public final class ReadmeTest {
    private static final Path README = Path.of("README.md");
    private static final Pattern TEXT = Pattern.compile("String text = \"(\\w+)\";.*");
    private static final Pattern CALL = Pattern.compile("x\\.(\\w+)\\(([\\d, ]*)\\); *// (-?\\d+): .*");

    public static void main(String[] args) throws Exception {
        example();
        namesEveryCall();
        namesEveryTest();
        Check.end();
    }

    private static void example() throws Exception {
        CreditExchange x = new CreditExchange();
        int calls = 0;
        for (String line : Files.readAllLines(README)) {
            Matcher text = TEXT.matcher(line);
            if (text.matches()) {
                Check.type(x, text.group(1));
            }
            Matcher call = CALL.matcher(line);
            if (call.matches()) {
                calls++;
                Check.is("the example's " + call.group(1) + "(" + call.group(2) + ")",
                        answer(x, call.group(1), call.group(2)), Long.parseLong(call.group(3)));
            }
        }
        Check.is("calls of the example with an answer", calls, 9);
    }

    private static long answer(CreditExchange x, String name, String arguments) throws Exception {
        String[] told = arguments.isEmpty() ? new String[0] : arguments.split(", ");
        Object[] values = new Object[told.length];
        for (int i = 0; i < told.length; i++) {
            values[i] = Integer.valueOf(told[i]);
        }
        for (Method method : CreditExchange.class.getMethods()) {
            if (method.getName().equals(name)) {
                return answer(x, method, values);
            }
        }
        throw new IllegalStateException("no call " + name);
    }

    private static long answer(CreditExchange x, Method method, Object[] values) throws Exception {
        try {
            return ((Number) method.invoke(x, values)).longValue();
        } catch (InvocationTargetException e) {
            throw new IllegalStateException(method.getName() + " threw", e.getCause());
        }
    }

    private static void namesEveryCall() throws Exception {
        String readme = Files.readString(README);
        for (Method method : CreditExchange.class.getDeclaredMethods()) {
            if (java.lang.reflect.Modifier.isPublic(method.getModifiers())) {
                String head = "| `" + method.getName() + "(";
                Check.that("README.md does not tell of " + method.getName(), readme.contains(head));
                int from = readme.indexOf(head) + head.length();
                String told = readme.substring(from, readme.indexOf(")", from));
                Check.is("the arguments that README.md tells of " + method.getName(),
                        told.isEmpty() ? 0 : told.split(", ").length, method.getParameterCount());
            }
        }
    }

    private static void namesEveryTest() throws Exception {
        String readme = Files.readString(README);
        List<String> names;
        try (Stream<Path> files = Files.list(Path.of("src/test/java"))) {
            names = files.map(file -> file.getFileName().toString()).filter(name -> name.endsWith("Test.java")).toList();
        }
        Check.that("there are tests", names.size() > 20);
        for (String name : names) {
            String test = name.substring(0, name.length() - ".java".length());
            Check.that("README.md does not tell of " + test, readme.contains("| " + test + " |"));
        }
    }
}
