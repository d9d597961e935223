import java.io.ByteArrayOutputStream;
import java.io.IOException;
import java.io.PrintStream;
import java.lang.reflect.Method;
import java.lang.reflect.Modifier;
import java.nio.file.Files;
import java.nio.file.Path;
import java.util.List;
import java.util.stream.Collectors;
import java.util.stream.Stream;

/** README.md's example is one that runs and prints what stands there; every call and every test is named there. */
public final class ReadmeTest {
    private static final Path TESTS = Path.of("src/test/java");

    public static void main(String[] args) throws IOException {
        String readme = Files.readString(Path.of("README.md"));
        String example = Files.readString(TESTS.resolve("ReadmeExample.java"));
        Check.holds("README.md's example is not ReadmeExample.java", blockOf(readme, "java").equals(example));
        Check.holds("README.md's example prints\n" + printedByExample(), blockOf(readme, "text").equals(printedByExample()));
        for (Method method : LotRules.class.getDeclaredMethods()) {
            if (Modifier.isPublic(method.getModifiers())) {
                Check.holds("README.md names no call " + method.getName(), readme.contains("| `" + method.getName() + "("));
            }
        }
        for (String name : testNames()) {
            Check.holds("README.md does not name " + name, readme.contains("| " + name + " |"));
        }
        Check.end();
    }

    private static String blockOf(String readme, String language) {
        String opening = "```" + language + "\n";
        int start = readme.indexOf(opening);
        int end = readme.indexOf("```\n", start + opening.length());
        return start < 0 || end < 0 ? "" : readme.substring(start + opening.length(), end);
    }

    private static String printedByExample() {
        PrintStream before = System.out;
        ByteArrayOutputStream printed = new ByteArrayOutputStream();
        System.setOut(new PrintStream(printed));
        try {
            ReadmeExample.main(new String[0]);
        } finally {
            System.setOut(before);
        }
        return printed.toString().replace(System.lineSeparator(), "\n");
    }

    private static List<String> testNames() throws IOException {
        try (Stream<Path> files = Files.list(TESTS)) {
            return files.map(file -> file.getFileName().toString())
                    .filter(name -> name.endsWith("Test.java"))
                    .map(name -> name.substring(0, name.length() - ".java".length()))
                    .collect(Collectors.toList());
        }
    }
}
