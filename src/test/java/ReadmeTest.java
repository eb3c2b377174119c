import java.io.IOException;
import java.lang.reflect.Method;
import java.lang.reflect.Modifier;
import java.nio.ByteBuffer;
import java.nio.charset.StandardCharsets;
import java.nio.file.Files;
import java.nio.file.Path;
import java.util.Arrays;
import java.util.regex.Matcher;
import java.util.regex.Pattern;
import java.util.stream.Stream;

/** README.md: its example answers as it says, and it names all calls, classes and tests. */
public final class ReadmeTest {
    private static final Check check = new Check();
    private static final Path TESTS = Path.of("src/test/java");
    private static final Pattern BLOCK = Pattern.compile("(?s)```java\n(.*?)```");
    private static final Pattern ROW = Pattern.compile("^x\\.(\\w+)\\((.*?)\\); *// (-?\\d+|true)\\b");

    public static void main(String[] args) throws IOException {
        String readme = Files.readString(Path.of("README.md"));
        Matcher blocks = BLOCK.matcher(readme);
        check.isTrue("README.md shows tell", blocks.find());
        helperIsThisOne(blocks.group(1));
        check.isTrue("README.md shows an example", blocks.find());
        example(blocks.group(1));
        check.isTrue("README.md shows no more", !blocks.find());
        names(readme);
        check.close("ReadmeTest");
    }

    /** As README.md shows it. */
    static void tell(BowWalk x, String text) {
        byte[] bytes = (text + " ".repeat(20)).getBytes(StandardCharsets.ISO_8859_1);
        for (int from = 0; from < text.length(); from += 20) {
            ByteBuffer five = ByteBuffer.wrap(bytes, from, 20);
            x.feed(five.getInt(), five.getInt(), five.getInt(), five.getInt(), five.getInt());
        }
        x.end(text.length());
    }

    private static void helperIsThisOne(String shown) throws IOException {
        check.promise("tell");
        String own = Files.readString(TESTS.resolve("ReadmeTest.java"));
        check.isTrue("README.md shows what is compiled here", own.contains(shown.strip().indent(4)));
        for (int length : new int[] {0, 1, 19, 20, 21, 40, 1599, 1600}) {
            BowWalk x = new BowWalk();
            tell(x, " ".repeat(Math.max(0, length - 13)) + "knot a under;".substring(Math.max(0, 13 - length)));
            check.due("about(7) of " + length + " bytes", x.about(7), length);
            check.due("shop() of " + length + " bytes", x.shop(), length >= 13 ? 1 : length == 0 ? 0 : -1);
        }
    }

    private static void example(String block) {
        check.promise("the example");
        BowWalk x = new BowWalk();
        tell(x, joined(block));
        int rows = 0;
        for (String line : block.split("\n")) {
            Matcher row = ROW.matcher(line);
            if (row.find()) {
                rows++;
                int want = row.group(3).equals("true") ? 1 : Integer.parseInt(row.group(3));
                check.due(line, Calls.of(x, row.group(1), numbers(row.group(2))), want);
            } else {
                check.isTrue(line + " has its answer", !line.startsWith("x."));
            }
        }
        check.isTrue("rows were found", rows > 20);
    }

    /** The text that the example tells, of all its parts in quotes. */
    private static String joined(String block) {
        StringBuilder text = new StringBuilder();
        Matcher part = Pattern.compile("\"([^\"]*)\"").matcher(block);
        while (part.find()) {
            text.append(part.group(1));
        }
        return text.toString();
    }

    private static int[] numbers(String told) {
        return told.isEmpty() ? new int[0] : Arrays.stream(told.split(", ")).mapToInt(Integer::parseInt).toArray();
    }

    private static void names(String readme) throws IOException {
        check.promise("README.md names");
        for (Method m : BowWalk.class.getDeclaredMethods()) {
            boolean named = readme.contains("`" + m.getName() + "`");
            check.isTrue(m.getName(), named || !Modifier.isPublic(m.getModifiers()));
        }
        for (Class<?> inside : BowWalk.class.getDeclaredClasses()) {
            check.isTrue(inside.getSimpleName(), readme.contains("`" + inside.getSimpleName() + "`"));
        }
        try (Stream<Path> files = Files.list(TESTS)) {
            for (Path file : files.toList()) {
                String name = file.getFileName().toString().replace(".java", "");
                check.isTrue(name, !name.endsWith("Test") || readme.contains("| `" + name + "` |"));
            }
        }
        check.isTrue("how tests are run", readme.contains("`.ci/run`"));
    }
}
