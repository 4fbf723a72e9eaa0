import java.io.File;
import java.io.IOException;
import java.lang.reflect.Method;
import java.lang.reflect.Modifier;
import java.nio.charset.StandardCharsets;
import java.nio.file.Files;
import java.nio.file.Path;
import java.util.regex.Matcher;
import java.util.regex.Pattern;

/** What README.md says of calls and answers, and which tests there are, as it stands there. */
public final class ReadmeTest {
    private static final Pattern FED = Pattern.compile("for \\(char c : \"(.*)\"\\.toCharArray\\(\\)\\) \\{");
    private static final Pattern CALL = Pattern.compile("reader\\.(\\w+)\\((\\d*)\\);(?: *// (-?\\d+).*)?");
    private static final Pattern ROW = Pattern.compile("\\| (-?\\d+) \\|[^|]*\\|(.*)\\|");
    private static final Pattern SHOWN = Pattern.compile("`([^`]*)`");

    public static void main(String[] args) throws IOException, ReflectiveOperationException {
        String page = Files.readString(Path.of("README.md"), StandardCharsets.UTF_8);
        example(page);
        kinds(page);
        calls(page);
        tests(page);
        Checks.done();
    }

    private static void example(String page) throws ReflectiveOperationException {
        Checks.about("README.md: the example");
        Matcher fed = FED.matcher(page);
        Checks.same("it feeds a text", true, fed.find());
        TokenReader reader = Tapes.fed(fed.group(1).replace("\\\\", "\\"));
        Matcher call = CALL.matcher(page);
        int calls = 0;
        while (call.find()) {
            Object answer = called(reader, call.group(1), call.group(2));
            Checks.same(call.group(), call.group(3), answer == null ? null : answer.toString());
            calls++;
        }
        Checks.same("it makes calls", true, calls > 10);
    }

    private static Object called(TokenReader reader, String name, String argument) throws ReflectiveOperationException {
        if (argument.isEmpty()) {
            return TokenReader.class.getMethod(name).invoke(reader);
        }
        return TokenReader.class.getMethod(name, int.class).invoke(reader, Integer.parseInt(argument));
    }

    private static void kinds(String page) {
        Checks.about("README.md: what the first next() answers");
        StringBuilder answers = new StringBuilder();
        Matcher row = ROW.matcher(page);
        while (row.find()) {
            answers.append(row.group(1)).append(' ');
            Matcher shown = SHOWN.matcher(row.group(2));
            while (shown.find()) {
                TokenReader reader = Tapes.fed(shown.group(1));
                reader.end();
                Checks.same(shown.group(), Integer.parseInt(row.group(1)), reader.next());
            }
        }
        Checks.same("all answers but 0", "1 2 3 4 5 6 7 8 9 10 11 12 13 14 15 16 20 -2 -3 -4 -5 -6 -7 ", answers.toString());
    }

    private static void calls(String page) {
        Checks.about("README.md: every call of the face");
        for (Method method : TokenReader.class.getDeclaredMethods()) {
            if (Modifier.isPublic(method.getModifiers())) {
                Checks.same(method.getName(), true, page.contains("| `" + method.getName() + "("));
            }
        }
    }

    private static void tests(String page) {
        Checks.about("README.md: every test");
        for (String file : new File("src/test/java").list()) {
            if (file.endsWith(".java")) {
                Checks.same(file, true, page.contains("- `" + file.replace(".java", "") + "`: "));
            }
        }
    }
}
