import java.io.IOException;
import java.lang.reflect.Method;
import java.lang.reflect.Modifier;
import java.nio.file.Files;
import java.nio.file.Path;
import java.util.List;
import java.util.regex.Matcher;
import java.util.regex.Pattern;
import java.util.stream.Stream;

/** What README.md says of the class and of its tests is so; run from the folder in which it lies. */
public final class ReadmeTest {
    private static final Due DUE = new Due();
    private static final Pattern BLOCK = Pattern.compile("```java\n(.*?)```", Pattern.DOTALL);
    private static final Pattern CALL = Pattern.compile("country\\.(\\w+\\(.*?\\)); +// (-?\\d+)(:.*)?");
    private static final Pattern TYPED = Pattern.compile("for \\(char sign : \"([^\"]*)\"\\.toCharArray\\(\\)\\) \\{");
    private static final Pattern CONSTANT = Pattern.compile("\\| (-\\d+) \\| `(\\w+)` \\|.*");
    private static final List<String> WITHOUT_ANSWER =
        List.of("KinderTowns country = new KinderTowns();", "    country.type(sign);", "}");

    public static void main(String[] args) throws IOException, ReflectiveOperationException {
        String readme = Files.readString(Path.of("README.md"));
        examples(readme);
        constants(readme);
        calls(readme);
        tests(readme, Files.readString(Path.of(".ci/run")));
        DUE.end();
    }

    /** Each example is a run on a new object; no line of it is passed over. */
    private static void examples(String readme) {
        Matcher block = BLOCK.matcher(readme);
        int examples = 0;
        while (block.find()) {
            examples++;
            StringBuilder steps = new StringBuilder();
            for (String line : block.group(1).split("\n")) {
                steps.append(step(line));
            }
            Run.play(DUE, "README.md, example " + examples, steps.toString());
        }
        DUE.is("examples", examples, 2);
    }

    private static String step(String line) {
        Matcher call = CALL.matcher(line);
        if (call.matches()) {
            return call.group(1).replace(" ", "") + "=" + call.group(2) + " ";
        }
        Matcher typed = TYPED.matcher(line);
        if (typed.matches()) {
            return "'" + typed.group(1) + "' ";
        }
        DUE.holds("README.md has a call and its answer in: " + line, WITHOUT_ANSWER.contains(line));
        return "";
    }

    private static void constants(String readme) throws ReflectiveOperationException {
        int constants = 0;
        for (String line : readme.split("\n")) {
            Matcher row = CONSTANT.matcher(line);
            if (row.matches()) {
                constants++;
                int value = KinderTowns.class.getField(row.group(2)).getInt(null);
                DUE.is(row.group(2) + " in README.md", Integer.parseInt(row.group(1)), value);
            }
        }
        DUE.is("constants in README.md", constants, KinderTowns.class.getFields().length);
    }

    private static void calls(String readme) {
        for (Method method : KinderTowns.class.getDeclaredMethods()) {
            if (Modifier.isPublic(method.getModifiers())) {
                named("README.md", readme, "`" + method.getName() + "`");
            }
        }
    }

    private static void tests(String readme, String ci) throws IOException {
        try (Stream<Path> files = Files.list(Path.of("src/test/java"))) {
            for (Path file : files.toList()) {
                String name = file.getFileName().toString().replace(".java", "");
                named("README.md", readme, "`" + name + "`");
                if (Files.readString(file).contains("public static void main(")) {
                    named(".ci/run", ci, " " + name);
                }
            }
        }
    }

    private static void named(String page, String text, String words) {
        DUE.holds(page + " names " + words, text.contains(words));
    }
}
