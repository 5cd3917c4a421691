import java.io.IOException;
import java.lang.reflect.Method;
import java.lang.reflect.Modifier;
import java.nio.file.DirectoryStream;
import java.nio.file.Files;
import java.nio.file.Path;
import java.util.Arrays;
import java.util.regex.Matcher;
import java.util.regex.Pattern;

/** README.md shows calls with their answers: each is as it says, each call is named there, and so is each test. */
public final class ReadmeTest {
    private static final Due DUE = new Due();
    private static final String MAKES = "TaughtTongues x = new TaughtTongues();";
    private static final Pattern CALLS = Pattern.compile("x\\.(\\w+)\\(([-\\d, ]*)\\); +// ([-+\\w ]+)(:.*)?");
    private static final Pattern SAYS = Pattern.compile("for \\(char sign : \"(.*)\"\\.toCharArray\\(\\)\\) x\\.say\\(sign\\);");
    private static final Pattern BLOCK = Pattern.compile("(?s)```java\n(.*?)```");
    private static final Pattern CONSTANT = Pattern.compile("\\| `(\\w+)` \\| (-\\d+) \\||`(\\w+)` \\((-\\d+)\\)");

    public static void main(String[] args) throws Exception {
        String readme = Files.readString(Path.of("README.md"));
        blocksAreAsShown(readme);
        constantsAreAsShown(readme);
        callsAreNamed(readme);
        testsAreNamed(readme);
        DUE.end();
    }

    private static void blocksAreAsShown(String readme) throws Exception {
        Matcher block = BLOCK.matcher(readme);
        int count = 0;
        while (block.find()) {
            answersAreAsShown(block.group(1));
            count++;
        }
        DUE.sentence("use, fractions and refused calls are shown; for how many calls an object serves is told");
        DUE.is("blocks", 3, count);
        DUE.holds("512 calls", readme.contains("512 calls"));
    }

    private static void answersAreAsShown(String block) throws Exception {
        DUE.sentence("a block of calls");
        TaughtTongues x = null;
        for (String row : block.split("\n")) {
            Matcher says = SAYS.matcher(row);
            Matcher calls = CALLS.matcher(row);
            if (row.equals(MAKES)) {
                x = new TaughtTongues();
            } else if (says.matches()) {
                Given.sayAll(x, says.group(1));
            } else if (calls.matches()) {
                DUE.is(row, shown(calls.group(3)), answer(x, calls.group(1), calls.group(2)));
            } else {
                DUE.holds("this test can read: " + row, false);
            }
        }
    }

    private static long answer(TaughtTongues x, String name, String arguments) throws Exception {
        Object[] values = arguments.isEmpty() ? new Object[0]
            : Arrays.stream(arguments.split(", ")).map(Integer::valueOf).toArray();
        Class<?>[] types = new Class<?>[values.length];
        Arrays.fill(types, int.class);
        return ((Number) TaughtTongues.class.getMethod(name, types).invoke(x, values)).longValue();
    }

    /** A number, a constant's name, or two of them with a + between. */
    private static long shown(String words) throws Exception {
        long sum = 0;
        for (String word : words.split(" \\+ ")) {
            sum += word.matches("-?\\d+") ? Long.parseLong(word) : constant(word);
        }
        return sum;
    }

    private static long constant(String name) throws Exception {
        return ((Number) TaughtTongues.class.getField(name).get(null)).longValue();
    }

    private static void constantsAreAsShown(String readme) throws Exception {
        DUE.sentence("constants");
        Matcher row = CONSTANT.matcher(readme);
        int count = 0;
        while (row.find()) {
            boolean isInTable = row.group(1) != null;
            String name = row.group(isInTable ? 1 : 3);
            DUE.is(name, Long.parseLong(row.group(isInTable ? 2 : 4)), constant(name));
            count++;
        }
        DUE.is("all but LOST, which has no number there", 6, count);
    }

    private static void callsAreNamed(String readme) {
        DUE.sentence("every call is named");
        for (Method method : TaughtTongues.class.getDeclaredMethods()) {
            if (Modifier.isPublic(method.getModifiers())) {
                DUE.holds(method.getName(), Pattern.compile("`" + method.getName() + "\\b").matcher(readme).find());
            }
        }
    }

    private static void testsAreNamed(String readme) throws IOException {
        DUE.sentence("every test is named");
        try (DirectoryStream<Path> tests = Files.newDirectoryStream(Path.of("src/test/java"), "*.java")) {
            for (Path test : tests) {
                String name = test.getFileName().toString().replace(".java", "");
                DUE.holds(name, readme.contains("`" + name + "`"));
            }
        }
    }
}
