import java.io.IOException;
import java.lang.reflect.Method;
import java.nio.file.Files;
import java.nio.file.Path;
import java.util.List;
import java.util.regex.Matcher;
import java.util.regex.Pattern;
import java.util.stream.Stream;

/** README.md: the answers that its example names, and that it names each test. */
public final class ReadmeTest {
    private static final Pattern CALL = Pattern.compile("bar\\.(\\w+)\\(([^)]*)\\);\\s*// (-?\\d+)(:.*)?");
    private static final Pattern TEXT = Pattern.compile("for \\(char letter : \"([^\"]*)\"\\.toCharArray\\(\\)\\) \\{");
    private static final List<String> AROUND = List.of("", "NinetyNine bar = new NinetyNine();", "bar.feed(letter);        // the tape", "}");

    public static void main(String[] args) throws Exception {
        Checks c = new Checks();
        String readme = Files.readString(Path.of("README.md"));
        example(c, readme.substring(readme.indexOf("```java") + 7).split("```")[0]);
        try (Stream<Path> files = Files.list(Path.of("src/test/java"))) {
            files.map(file -> file.getFileName().toString()).filter(name -> name.endsWith("Test.java")).forEach(name ->
                c.that("README.md does not tell of " + name, readme.contains("`" + name.replace(".java", "") + "`")));
        }
        c.finish();
    }

    private static void example(Checks c, String block) throws Exception {
        NinetyNine bar = new NinetyNine();
        int calls = 0;
        for (String line : block.split("\n")) {
            Matcher call = CALL.matcher(line.trim());
            Matcher text = TEXT.matcher(line.trim());
            if (call.matches()) {
                calls++;
                c.due("README.md: " + line.trim(), answer(bar, call.group(1), call.group(2)), Long.parseLong(call.group(3)));
            } else if (text.matches()) {
                text.group(1).chars().forEach(bar::feed);
            } else {
                c.that("README.md has a line that is not asked: " + line, AROUND.contains(line.trim()));
            }
        }
        c.that("README.md's example has calls", calls > 5);
    }

    private static long answer(NinetyNine bar, String name, String written) throws Exception {
        Object[] arguments = Stream.of(written.split(",")).map(String::trim).filter(a -> !a.isEmpty()).map(Integer::valueOf).toArray();
        for (Method method : NinetyNine.class.getMethods()) {
            if (method.getName().equals(name) && method.getParameterCount() == arguments.length) {
                return ((Number) method.invoke(bar, arguments)).longValue();
            }
        }
        throw new IOException("README.md calls what is not there: " + name);
    }
}
