import java.io.File;
import java.lang.reflect.Method;
import java.lang.reflect.Modifier;
import java.nio.file.Files;
import java.nio.file.Path;
import java.util.Arrays;
import java.util.regex.Matcher;
import java.util.regex.Pattern;

/** README.md is true: the calls of its example answer as it says, and it names every call and every test. */
public final class ReadmeTests {
    private static final Pattern LINE = Pattern.compile("m\\.(\\w+)\\(([-0-9, ]*)\\);\\s*// (-?\\d+|true|false)(:.*)?");
    private static int asked = 0;
    private static int wrong = 0;

    public static void main(String[] args) throws Exception {
        String readme = Files.readString(Path.of("README.md"));
        int from = readme.indexOf("```java\n");
        int to = readme.indexOf("```\n", from + 1);
        due("an example", from >= 0 && to > from);
        if (to > from) {
            example(readme.substring(from, to).split("\n"));
        }
        namesCalls(readme);
        namesTests(readme);
        System.out.println(asked + " things asked, " + wrong + " wrong");
        if (wrong != 0) {
            System.exit(1);
        }
    }

    private static void due(String what, boolean holds) {
        asked++;
        if (!holds) {
            wrong++;
            System.out.println("README.md: " + what);
        }
    }

    private static void example(String[] lines) throws Exception {
        TextMender m = new TextMender();
        due("a new object first", lines.length > 2 && lines[1].equals("TextMender m = new TextMender();"));
        for (int i = 2; i < lines.length; i++) {
            Matcher line = LINE.matcher(lines[i]);
            boolean known = line.matches();
            due("a call and its answer: " + lines[i], known);
            if (known) {
                String got = answer(m, line.group(1), line.group(2));
                due(lines[i] + " answered " + got, got.equals(line.group(3)));
            }
        }
    }

    private static String answer(TextMender m, String name, String numbers) throws Exception {
        Object[] given = numbers.isBlank() ? new Object[0]
            : Arrays.stream(numbers.split(", ")).map(Integer::valueOf).toArray();
        Class<?>[] types = new Class<?>[given.length];
        Arrays.fill(types, int.class);
        return String.valueOf(TextMender.class.getMethod(name, types).invoke(m, given));
    }

    private static void namesCalls(String readme) {
        for (Method method : TextMender.class.getDeclaredMethods()) {
            if (Modifier.isPublic(method.getModifiers())) {
                due("tells of " + method.getName(), readme.contains("`" + method.getName() + "`"));
            }
        }
    }

    private static void namesTests(String readme) {
        due("tells how to run the tests", readme.contains("\n    .ci/run\n"));
        File[] files = new File("src/test/java").listFiles();
        due("there are tests", files != null && files.length > 0);
        for (File file : files == null ? new File[0] : files) {
            String name = file.getName().replace(".java", "");
            due("tells of " + name, readme.contains("`" + name + "`"));
        }
    }
}
