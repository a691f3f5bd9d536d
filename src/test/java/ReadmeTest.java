import java.io.File;
import java.io.IOException;
import java.lang.reflect.InvocationTargetException;
import java.lang.reflect.Method;
import java.lang.reflect.Modifier;
import java.nio.file.Files;
import java.nio.file.Path;
import java.util.regex.Matcher;
import java.util.regex.Pattern;

/** README.md tells the class as it is: its examples' answers, every call, every test. */
public final class ReadmeTest {
    private static final Pattern CALL = Pattern.compile("q\\.(\\w+)\\(([^)]*)\\);\\s*// (-?\\d+)(:.*)?");
    private static final Pattern BYTES = Pattern.compile(": \"(.{20})\"");

    public static void main(String[] args) throws IOException, ReflectiveOperationException {
        Path root = Path.of(args[0]);
        String readme = Files.readString(root.resolve("README.md"));
        examples(readme);
        everyCall(readme);
        everyTest(readme, root);
        Check.holds("how the tests are run", readme.contains("\n.ci/run\n"));
        Check.end();
    }

    private static void examples(String readme) throws ReflectiveOperationException {
        Matcher block = Pattern.compile("```java\n(.*?)```", Pattern.DOTALL).matcher(readme);
        int blocks = 0;
        while (block.find()) {
            example(block.group(1));
            blocks++;
        }
        Check.due("examples", blocks, 4);
    }

    private static void example(String block) throws ReflectiveOperationException {
        String[] lines = block.split("\n");
        Check.holds("an example has its own object: " + lines[0], lines[0].equals("BeatQueues q = new BeatQueues();"));
        BeatQueues q = new BeatQueues();
        for (int i = 1; i < lines.length; i++) {
            Matcher call = CALL.matcher(lines[i]);
            boolean isCall = call.matches();
            Check.holds("a call with its answer: " + lines[i], isCall);
            if (isCall) {
                int[] numbers = numbers(call.group(2));
                Check.due(lines[i], answer(q, call.group(1), numbers), Integer.parseInt(call.group(3)));
                if (call.group(1).equals("feed")) {
                    bytesAreTold(lines[i], numbers);
                }
            }
        }
    }

    /** What stands in quotes behind a feed() is what its numbers tell. */
    private static void bytesAreTold(String line, int[] numbers) {
        StringBuilder text = new StringBuilder();
        for (int number : numbers) {
            for (int shift = 24; shift >= 0; shift -= 8) {
                text.append((char) (number >> shift & 255));
            }
        }
        Matcher bytes = BYTES.matcher(line);
        Check.holds("the bytes of " + line + " are: " + text, bytes.find() && bytes.group(1).contentEquals(text));
    }

    private static int[] numbers(String list) {
        if (list.isBlank()) {
            return new int[0];
        }
        String[] parts = list.split(",");
        int[] numbers = new int[parts.length];
        for (int i = 0; i < parts.length; i++) {
            numbers[i] = Integer.decode(parts[i].trim());
        }
        return numbers;
    }

    private static int answer(BeatQueues q, String name, int[] numbers) throws ReflectiveOperationException {
        Class<?>[] types = new Class<?>[numbers.length];
        Object[] values = new Object[numbers.length];
        for (int i = 0; i < numbers.length; i++) {
            types[i] = int.class;
            values[i] = numbers[i];
        }
        try {
            return (Integer) BeatQueues.class.getMethod(name, types).invoke(q, values);
        } catch (InvocationTargetException e) {
            return -1000;
        }
    }

    private static void everyCall(String readme) {
        String table = readme.substring(readme.indexOf("### All calls"), readme.indexOf("## Tests"));
        int calls = 0;
        for (Method method : BeatQueues.class.getDeclaredMethods()) {
            if (Modifier.isPublic(method.getModifiers())) {
                Check.holds("README.md names " + method.getName(), table.contains("`" + method.getName() + "`"));
                calls++;
            }
        }
        Check.due("calls", calls, 41);
    }

    private static void everyTest(String readme, Path root) {
        String list = readme.substring(readme.indexOf("## Tests"));
        File[] files = root.resolve("src/test/java").toFile().listFiles();
        Check.holds("tests are there", files != null && files.length > 0);
        for (File file : files == null ? new File[0] : files) {
            String name = file.getName().replace(".java", "");
            Check.holds("README.md names " + name, list.contains("`" + name + "`"));
        }
        Matcher named = Pattern.compile("`(\\w+Test)`").matcher(list);
        while (named.find()) {
            boolean isThere = Files.exists(root.resolve("src/test/java/" + named.group(1) + ".java"));
            Check.holds("README.md names a test that is there: " + named.group(1), isThere);
        }
    }
}
