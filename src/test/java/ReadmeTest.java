import java.io.IOException;
import java.lang.reflect.Method;
import java.lang.reflect.Modifier;
import java.nio.file.Files;
import java.nio.file.Path;
import java.util.Set;
import java.util.TreeSet;
import java.util.regex.Matcher;
import java.util.regex.Pattern;
import java.util.stream.Collectors;
import java.util.stream.Stream;

/**
 * What README.md says is as it is: its example is made call by call, and each answers what stands
 * behind it; its table of tests names those that there are; and so with the classes.
 */
public final class ReadmeTest {
    private static final String NEW_DESK = "GreenDesk desk = new GreenDesk();";
    private static final Pattern CALL =
            Pattern.compile("desk\\.(\\w+)\\(([-\\d, ]*)\\); +// (-?\\d+|true|false)(: .*)?");

    public static void main(String[] args) throws IOException, ReflectiveOperationException {
        String text = Files.readString(Path.of("README.md"));
        exampleIsAsTold(text);
        testsAreAsTold(text);
        classesAreAsTold(text);
        Due.end();
    }

    private static void exampleIsAsTold(String text) throws ReflectiveOperationException {
        Set<String> used = new TreeSet<>();
        GreenDesk desk = null;
        int calls = 0;
        for (String line : exampleLines(text)) {
            Matcher call = CALL.matcher(line);
            if (line.equals(NEW_DESK)) {
                Due.due("README has one desk", desk == null, true);
                desk = new GreenDesk();
            } else if (call.matches()) {
                Due.due("README " + line, answer(desk, call.group(1), call.group(2)), number(call.group(3)));
                used.add(call.group(1));
                calls++;
            } else {
                Due.due("README has a line that is no call: " + line, true, false);
            }
        }
        Due.due("README's desk is used for at most 512 calls", calls > 0 && calls <= 512, true);
        Due.due("README uses each call, and has " + used, used.equals(namesOfCalls()), true);
    }

    private static String[] exampleLines(String text) {
        Matcher block = Pattern.compile("(?s)```java\n(.*?)```").matcher(text);
        StringBuilder lines = new StringBuilder();
        while (block.find()) {
            lines.append(block.group(1));
        }
        return lines.toString().lines().filter(line -> !line.isBlank()).toArray(String[]::new);
    }

    private static long answer(GreenDesk desk, String name, String told) throws ReflectiveOperationException {
        String[] words = told.isBlank() ? new String[0] : told.split(", ");
        Object[] values = new Object[words.length];
        Class<?>[] types = new Class<?>[words.length];
        for (int k = 0; k < words.length; k++) {
            values[k] = Integer.valueOf(words[k]);
            types[k] = int.class;
        }
        return number(GreenDesk.class.getMethod(name, types).invoke(desk, values).toString());
    }

    private static long number(String word) {
        return word.equals("true") ? 1 : word.equals("false") ? 0 : Long.parseLong(word);
    }

    private static Set<String> namesOfCalls() {
        Set<String> names = new TreeSet<>();
        for (Method method : GreenDesk.class.getDeclaredMethods()) {
            if (Modifier.isPublic(method.getModifiers())) {
                names.add(method.getName());
            }
        }
        return names;
    }

    private static void testsAreAsTold(String text) throws IOException {
        Set<String> told = found(text, "(?m)^\\| `(\\w+)` \\|");
        try (Stream<Path> files = Files.list(Path.of("src/test/java"))) {
            Set<String> there = files.map(file -> file.getFileName().toString())
                    .filter(name -> name.endsWith("Test.java"))
                    .map(name -> name.substring(0, name.length() - ".java".length()))
                    .collect(Collectors.toCollection(TreeSet::new));
            Due.due("README's tests are " + told + ", there are " + there, told.equals(there), true);
        }
    }

    private static void classesAreAsTold(String text) {
        String section = text.substring(text.indexOf("## How it is built"));
        Set<String> told = found(section, "`([A-Z]\\w+)`");
        Set<String> there = new TreeSet<>();
        for (Class<?> each : GreenDesk.class.getDeclaredClasses()) {
            there.add(each.getSimpleName());
        }
        Due.due("README's classes are " + told + ", there are " + there, told.equals(there), true);
    }

    private static Set<String> found(String text, String pattern) {
        return Pattern.compile(pattern).matcher(text).results().map(result -> result.group(1))
                .collect(Collectors.toCollection(TreeSet::new));
    }
}
