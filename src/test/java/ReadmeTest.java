import java.io.File;
import java.io.IOException;
import java.lang.reflect.Field;
import java.lang.reflect.Method;
import java.lang.reflect.Modifier;
import java.nio.file.Files;
import java.nio.file.Path;
import java.util.regex.Matcher;
import java.util.regex.Pattern;

/** README.md: the answers of its example are those of the class, and it names every call, constant and test. */
public final class ReadmeTest {
    private static final Pattern TYPED = Pattern.compile("for \\(char sign : \"(.*)\"\\.toCharArray\\(\\)\\) \\{");
    private static final Pattern CALL = Pattern.compile("stall\\.(\\w+)\\(([-\\d, ]*)\\); +// (-?\\d+): .*");
    private static final int CALLS_OF_THE_EXAMPLE = 10;

    public static void main(String[] args) throws IOException, ReflectiveOperationException {
        String readme = Files.readString(Path.of("README.md"));
        example(readme);
        calls(readme);
        constants(readme);
        tests(readme);
        Due.end();
    }

    private static void example(String readme) throws ReflectiveOperationException {
        int start = readme.indexOf("```java\n");
        int end = readme.indexOf("\n```\n", Math.max(start, 0));
        Due.due("the README has an example", start >= 0 && end > start ? 1 : 0, 1);
        FoldedProfiles stall = new FoldedProfiles();
        int called = 0;
        for (String line : readme.substring(start, end).split("\n")) {
            Matcher typed = TYPED.matcher(line);
            if (typed.matches()) {
                Due.text(stall, typed.group(1));
            }
            Matcher call = CALL.matcher(line);
            if (call.matches()) {
                Due.due(line, answer(stall, call.group(1), call.group(2)), Integer.parseInt(call.group(3)));
                called++;
            }
        }
        Due.due("calls of the example that tell an answer", called, CALLS_OF_THE_EXAMPLE);
    }

    private static int answer(FoldedProfiles stall, String name, String list) throws ReflectiveOperationException {
        String[] words = list.isEmpty() ? new String[0] : list.split(", ");
        Class<?>[] kinds = new Class<?>[words.length];
        Object[] arguments = new Object[words.length];
        for (int i = 0; i < words.length; i++) {
            kinds[i] = int.class;
            arguments[i] = Integer.valueOf(words[i]);
        }
        return (Integer) FoldedProfiles.class.getMethod(name, kinds).invoke(stall, arguments);
    }

    private static void calls(String readme) {
        for (Method method : FoldedProfiles.class.getDeclaredMethods()) {
            if (!Modifier.isPublic(method.getModifiers())) {
                continue;
            }
            int more = Math.max(0, method.getParameterCount() - 1);
            String names = method.getParameterCount() == 0 ? "" : "\\w+(, \\w+){" + more + "}";
            String row = "(?s).*\n\\| `" + method.getName() + "\\(" + names + "\\)` \\| (yes|no) \\|.*";
            Due.due("the README has a row of " + method.getName(), readme.matches(row) ? 1 : 0, 1);
        }
    }

    private static void constants(String readme) throws ReflectiveOperationException {
        for (Field field : FoldedProfiles.class.getDeclaredFields()) {
            if (Modifier.isPublic(field.getModifiers())) {
                String row = "\n| `" + field.getName() + "` | " + field.getInt(null) + " |";
                Due.due("the README has a row of " + field.getName(), readme.contains(row) ? 1 : 0, 1);
            }
        }
    }

    private static void tests(String readme) {
        String[] files = new File("src/test/java").list();
        Due.due("there are tests", files != null && files.length > 0 ? 1 : 0, 1);
        for (String file : files == null ? new String[0] : files) {
            if (file.endsWith("Test.java")) {
                String row = "\n| " + file.substring(0, file.length() - ".java".length()) + " |";
                Due.due("the README has a row of " + file, readme.contains(row) ? 1 : 0, 1);
            }
        }
    }
}
