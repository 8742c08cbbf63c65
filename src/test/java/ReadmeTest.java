import java.io.IOException;
import java.lang.reflect.Method;
import java.lang.reflect.Modifier;
import java.nio.file.Files;
import java.nio.file.Path;
import java.util.List;
import java.util.regex.Matcher;
import java.util.regex.Pattern;
import java.util.stream.Collectors;
import java.util.stream.Stream;

/** README.md: the answers in its example are those of the program, and it names every call and every test. */
final class ReadmeTest {
    private static final Pattern CALL = Pattern.compile("house\\.(\\w+)\\((.*?)\\);\\s+// (-?\\d+):.*");

    public static void main(String[] args) throws IOException {
        String page = Files.readString(Path.of("README.md"));
        example(page);
        calls(page);
        tests(page);
        Check.finish();
    }

    private static void example(String page) {
        DampHouse house = new DampHouse();
        List<String> lines = page.lines()
                .dropWhile(line -> !line.equals("```java")).skip(2)
                .takeWhile(line -> !line.equals("```")).collect(Collectors.toList());
        Check.dueThat("the example has calls", lines.size() > 10);
        for (String line : lines) {
            Matcher call = CALL.matcher(line);
            Check.dueThat("a call with its answer: " + line, call.matches());
            if (call.matches()) {
                long got = Face.call(house, call.group(1), numbers(call.group(2)));
                Check.due("README: " + line, got, Long.parseLong(call.group(3)));
            }
        }
    }

    private static int[] numbers(String arguments) {
        return Stream.of(arguments.replace("true", "1").replace("false", "0").split(", "))
                .filter(each -> !each.isEmpty()).mapToInt(Integer::parseInt).toArray();
    }

    private static void calls(String page) {
        for (Method method : DampHouse.class.getDeclaredMethods()) {
            if (Modifier.isPublic(method.getModifiers())) {
                String row = "\\| `" + method.getName() + "\\(([^`]*)\\)` \\|";
                Matcher found = Pattern.compile(row).matcher(page);
                boolean there = found.find();
                Check.dueThat("README tells of " + method.getName(), there);
                long told = there ? Stream.of(found.group(1).split(", ")).filter(name -> !name.isEmpty()).count() : -1;
                Check.due("what README gives " + method.getName(), told, method.getParameterCount());
            }
        }
    }

    private static void tests(String page) throws IOException {
        try (Stream<Path> files = Files.list(Path.of("src/test/java"))) {
            for (Path file : files.collect(Collectors.toList())) {
                String name = file.getFileName().toString().replace(".java", "");
                Check.dueThat("README tells of " + name, page.contains("`" + name + "`"));
            }
        }
    }
}
