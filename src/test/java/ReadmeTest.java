import java.io.IOException;
import java.lang.reflect.Method;
import java.lang.reflect.Modifier;
import java.nio.charset.StandardCharsets;
import java.nio.file.Files;
import java.nio.file.Path;
import java.util.Arrays;
import java.util.List;
import java.util.regex.Matcher;
import java.util.regex.Pattern;
import java.util.stream.Collectors;
import java.util.stream.Stream;

/** What README.md says holds: the answers of its example, every call with its parameters, and every test by its name. */
public final class ReadmeTest {
    private static final Pattern CALL = Pattern.compile("^town\\.(\\w+)\\(([^)]*)\\);\\s*// (true|false|-?\\d+): (.*)$");
    private static final Pattern TEXT = Pattern.compile("^\"(.*)\"$");

    private ReadmeTest() {
    }

    public static void main(String[] args) throws Exception {
        String page = Files.readString(Path.of("README.md"), StandardCharsets.UTF_8);
        example(page);
        face(page);
        tests(page);
        Checks.due("it says how to run the tests", page.contains("`.ci/run`"), true);
        Checks.end();
    }

    private static void example(String page) throws ReflectiveOperationException {
        MissedTown town = new MissedTown();
        int calls = 0;
        for (String line : page.split("\n")) {
            if (line.startsWith("town.")) {
                calls++;
                exampleLine(town, line);
            }
        }
        Checks.due("the example has calls", calls > 20, true);
    }

    private static void exampleLine(MissedTown town, String line) throws ReflectiveOperationException {
        Matcher call = CALL.matcher(line);
        if (!call.matches()) {
            Checks.fail("this line tells no answer: " + line);
            return;
        }
        Object[] values = values(call.group(2));
        Object answer = methodOf(call.group(1)).invoke(town, values);
        Checks.due(line + " (it is " + answer + ")", answer.toString().equals(call.group(3)), true);
        Matcher text = TEXT.matcher(call.group(4));
        if (text.matches()) {
            for (int k = 0; k < values.length; k++) {
                Checks.due(line + ", int " + k, (Integer) values[k], Checks.word(text.group(1), 4 * k));
            }
        }
    }

    private static Object[] values(String told) {
        if (told.isBlank()) {
            return new Object[0];
        }
        return Stream.of(told.split(",")).map(String::trim).map(Integer::decode).toArray();
    }

    private static Method methodOf(String name) {
        for (Method method : MissedTown.class.getDeclaredMethods()) {
            if (method.getName().equals(name) && Modifier.isPublic(method.getModifiers())) {
                return method;
            }
        }
        throw new IllegalArgumentException("README.md names " + name);
    }

    private static void face(String page) {
        for (Method method : MissedTown.class.getDeclaredMethods()) {
            if (Modifier.isPublic(method.getModifiers())) {
                Matcher told = Pattern.compile("`" + method.getName() + "\\(([a-z, ]*)\\)`").matcher(page);
                boolean found = false;
                while (told.find()) {
                    found |= parameters(told.group(1)) == method.getParameterCount();
                }
                Checks.due(method.getName() + " is told with its parameters", found, true);
            }
        }
    }

    private static int parameters(String told) {
        return told.isBlank() ? 0 : told.split(",").length;
    }

    private static void tests(String page) throws IOException {
        List<String> names;
        try (Stream<Path> files = Files.list(Path.of("src/test/java"))) {
            names = files.map(file -> file.getFileName().toString().replace(".java", "")).sorted().collect(Collectors.toList());
        }
        for (String name : names) {
            Checks.due("README.md tells of " + name, page.contains("`" + name + "`"), true);
        }
        for (String word : page.split("`")) {
            boolean isTest = word.matches("\\w+Test");
            Checks.due(word + " is there", !isTest || names.contains(word), true);
        }
        Checks.due("tests: " + Arrays.toString(names.toArray()), names.isEmpty(), false);
    }
}
