import java.io.IOException;
import java.lang.reflect.Field;
import java.lang.reflect.Method;
import java.lang.reflect.Modifier;
import java.nio.file.Files;
import java.nio.file.Path;
import java.util.List;
import java.util.stream.Collectors;
import java.util.stream.Stream;

/** The rules of ../shared/LANGUAGE.md that can be seen in the text of the class or by reflection; a failure names the rule. */
public final class LanguageTest {
    private static final int MOST_CLASSES = 12;
    private static final int MOST_FIELDS = 20;
    private static final int MOST_PARAMETERS = 7;

    public static void main(String[] args) throws IOException {
        List<String> lines = Files.readAllLines(Path.of("src/main/java/LotRules.java")).stream()
                .map(line -> line.replaceAll("\"[^\"]*\"", "\"\"").replaceAll("/[/*].*", ""))
                .collect(Collectors.toList());
        Check.sentence("one file, without a package line; rule 4: the library", () -> head(lines));
        Check.sentence("rules 2, 4, 6: what is not used", () -> words(String.join("\n", lines)));
        Check.sentence("rule 6: throw new E()", () -> exceptions(lines));
        Check.sentence("rules 1, 2, 5, 11: classes, fields, methods", LanguageTest::members);
        Check.end();
    }

    private static void head(List<String> lines) {
        List<String> head = lines.stream()
                .filter(line -> line.startsWith("package") || line.startsWith("import"))
                .collect(Collectors.toList());
        Check.holds("it begins with " + head, head.equals(List.of("import java.util.NoSuchElementException;")));
    }

    private static void words(String text) {
        for (String word : new String[] {"try", "catch", "finally", "synchronized", "assert", "System", "Random", "Thread"}) {
            Check.holds("it uses " + word, !text.matches("(?s).*\\b" + word + "\\b.*"));
        }
        for (String sign : new String[] {"->", "::", "Exact(", "currentTime"}) {
            Check.holds("it uses " + sign, !text.contains(sign));
        }
    }

    private static void exceptions(List<String> lines) {
        for (String line : lines) {
            if (line.contains("throw ")) {
                Check.holds(line, line.matches(" *throw new (IllegalStateException|IllegalArgumentException"
                        + "|UnsupportedOperationException|NoSuchElementException)\\((\"\")?\\);"));
            }
        }
    }

    private static void members() {
        Class<?>[] inside = LotRules.class.getDeclaredClasses();
        Check.holds("classes: " + (inside.length + 1), inside.length < MOST_CLASSES);
        for (Class<?> nested : inside) {
            Check.holds(nested + " is not static, or is for others to see",
                    Modifier.isStatic(nested.getModifiers()) && !Modifier.isPublic(nested.getModifiers())
                            && !Modifier.isProtected(nested.getModifiers()));
        }
        Stream.concat(Stream.of(LotRules.class), Stream.of(inside)).forEach(LanguageTest::membersOf);
    }

    private static void membersOf(Class<?> type) {
        int fields = 0;
        for (Field field : type.getDeclaredFields()) {
            if (Modifier.isStatic(field.getModifiers())) {
                Check.holds(field + " is not final", Modifier.isFinal(field.getModifiers()));
            } else {
                fields++;
            }
        }
        Check.holds(type + " has " + fields + " fields", fields <= MOST_FIELDS);
        for (Method method : type.getDeclaredMethods()) {
            Check.holds(method + " has too many parameters", method.getParameterCount() <= MOST_PARAMETERS);
        }
    }
}
