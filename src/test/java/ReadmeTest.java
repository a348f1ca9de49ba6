import java.io.IOException;
import java.lang.reflect.Method;
import java.lang.reflect.Modifier;
import java.nio.file.Files;
import java.nio.file.Path;
import java.util.Set;
import java.util.TreeSet;
import java.util.regex.Matcher;
import java.util.regex.Pattern;
import java.util.stream.Stream;

/** That README.md tells the truth: its calls are made as they stand, and each answer is asked. */
public final class ReadmeTest {
    private static final Pattern BLOCK = Pattern.compile("(?s)```java\n(.*?)```");
    private static final Pattern LETTERS = Pattern.compile(
        "for \\(char sign : \"([^\"]*)\"\\.toCharArray\\(\\)\\) \\{\n    saint\\.letter\\(sign\\);\n\\}\n");
    private static final Pattern CALL = Pattern.compile("saint\\.(\\w+)\\(([^)]*)\\); +// (-?\\d+|[A-Z]+)(?:: .+)?");
    private static final Pattern REFUSAL = Pattern.compile("\\| `([A-Z]+)` \\| (-\\d+) \\|");
    private static final Pattern TEST = Pattern.compile("\\b\\w+Test\\b");

    private static GloveSaint saint;
    private static final Set<String> made = new TreeSet<>();

    public static void main(String[] args) throws IOException, ReflectiveOperationException {
        String readme = Files.readString(Path.of("README.md"));
        Matcher block = BLOCK.matcher(readme);
        while (block.find()) {
            follow(block.group(1));
        }
        everyCallIsShown();
        refusalsAreNumbers(readme);
        everyTestIsNamed(readme);
        Check.due("how to run the tests", readme.contains("```sh\n.ci/run\n```") ? 1 : 0, 1);
        Check.end("ReadmeTest");
    }

    /** A line that is none of the forms known here would be told, but not asked: so it is wrong. */
    private static void follow(String code) throws ReflectiveOperationException {
        String lines = LETTERS.matcher(code).replaceAll("write $1\n");
        for (String line : lines.split("\n")) {
            Matcher call = CALL.matcher(line);
            if (line.equals("GloveSaint saint = new GloveSaint();")) {
                saint = new GloveSaint();
            } else if (line.startsWith("write ")) {
                Check.write(saint, line.substring("write ".length()));
            } else if (call.matches()) {
                Check.due("README.md: " + line, answer(call.group(1), call.group(2)), number(call.group(3)));
            } else {
                Check.due("README.md, a line that no test can follow: " + line, 1, 0);
            }
        }
    }

    private static long answer(String name, String arguments) throws ReflectiveOperationException {
        String[] told = arguments.isEmpty() ? new String[0] : arguments.split(", ");
        Object[] numbers = new Object[told.length];
        Class<?>[] types = new Class<?>[told.length];
        for (int place = 0; place < told.length; place++) {
            numbers[place] = (int) number(told[place]);
            types[place] = int.class;
        }
        made.add(name);
        return ((Number) GloveSaint.class.getMethod(name, types).invoke(saint, numbers)).longValue();
    }

    private static long number(String told) throws ReflectiveOperationException {
        if (told.matches("'.'")) {
            return told.charAt(1);
        }
        return told.matches("[A-Z]+") ? GloveSaint.class.getField(told).getInt(null) : Long.parseLong(told);
    }

    private static void everyCallIsShown() {
        for (Method method : GloveSaint.class.getDeclaredMethods()) {
            if (Modifier.isPublic(method.getModifiers())) {
                Check.due("README.md shows " + method.getName(), made.contains(method.getName()) ? 1 : 0, 1);
            }
        }
    }

    private static void refusalsAreNumbers(String readme) throws ReflectiveOperationException {
        Matcher refusal = REFUSAL.matcher(readme);
        int refusals = 0;
        while (refusal.find()) {
            Check.due("README.md: " + refusal.group(), Long.parseLong(refusal.group(2)), number(refusal.group(1)));
            refusals++;
        }
        Check.due("refusals in README.md", refusals, 4);
    }

    private static void everyTestIsNamed(String readme) throws IOException {
        Set<String> named = new TreeSet<>();
        TEST.matcher(readme).results().forEach(found -> named.add(found.group()));
        try (Stream<Path> files = Files.list(Path.of("src/test/java"))) {
            for (Path file : files.filter(path -> path.toString().endsWith("Test.java")).toList()) {
                String name = file.getFileName().toString().replace(".java", "");
                Check.due("README.md names " + name, named.remove(name) ? 1 : 0, 1);
            }
        }
        Check.due("tests in README.md that are not: " + named, named.size(), 0);
    }
}
