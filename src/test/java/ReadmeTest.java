import java.lang.reflect.Method;
import java.lang.reflect.Modifier;
import java.nio.file.Files;
import java.nio.file.Path;
import java.util.ArrayList;
import java.util.HashSet;
import java.util.List;
import java.util.Set;
import java.util.TreeSet;
import java.util.regex.Matcher;
import java.util.regex.Pattern;
import java.util.stream.Stream;

/** README.md: its examples answer as it says, and it names every call and every test. */
public final class ReadmeTest {
    private static final Path README = Path.of("README.md");
    private static final Path TESTS = Path.of("src/test/java");
    private static final Pattern BLOCK = Pattern.compile("(?s)```java\n(.*?)```");
    private static final Pattern NEW = Pattern.compile("CorkConfessions state = new CorkConfessions\\(\\);");
    private static final Pattern TEXT = Pattern.compile("feedText\\(state, \"([^\"]*)\"\\);");
    private static final Pattern BYTES = Pattern.compile("feedBytes\\(state, ([0-9, ]*)\\);");
    private static final Pattern CALL = Pattern.compile("state\\.(\\w+)\\(([-0-9, ]*)\\); *// (-?\\d+|true|false)(:.*)?");
    private static final Set<String> CALLED = new HashSet<>();

    public static void main(String[] args) throws Exception {
        String page = Files.readString(README);
        Matcher blocks = BLOCK.matcher(page);
        int examples = 0;
        while (blocks.find()) {
            if (NEW.matcher(blocks.group(1)).find()) {
                example(blocks.group(1));
                examples++;
            } else {
                isOurs(blocks.group(1));
            }
        }
        Cork.due("examples", examples, 3);
        names(page);
        Cork.finish("ReadmeTest");
    }

    private static void example(String block) throws Exception {
        CorkConfessions state = new CorkConfessions();
        for (String line : block.split("\n")) {
            Matcher text = TEXT.matcher(line);
            Matcher bytes = BYTES.matcher(line);
            Matcher call = CALL.matcher(line);
            if (text.matches()) {
                feedText(state, text.group(1));
            } else if (bytes.matches()) {
                feedBytes(state, numbers(bytes.group(1)));
            } else if (call.matches()) {
                CALLED.add(call.group(1));
                String got = String.valueOf(ask(state, call.group(1), numbers(call.group(2))));
                Cork.due(line + " answered " + got, got.equals(call.group(3)), true);
            } else {
                Cork.due("a line that is no call: " + line, NEW.matcher(line).matches(), true);
            }
        }
    }

    private static int[] numbers(String row) {
        return Stream.of(row.split(", *")).filter(s -> !s.isBlank()).mapToInt(Integer::parseInt).toArray();
    }

    private static Object ask(CorkConfessions state, String name, int[] numbers) throws Exception {
        Class<?>[] types = new Class<?>[numbers.length];
        Object[] values = new Object[numbers.length];
        for (int i = 0; i < numbers.length; i++) {
            types[i] = int.class;
            values[i] = numbers[i];
        }
        return CorkConfessions.class.getMethod(name, types).invoke(state, values);
    }

    /** The functions that the page tells are those that stand here, line by line. */
    private static void isOurs(String block) throws Exception {
        List<String> own = new ArrayList<>();
        for (String line : Files.readAllLines(TESTS.resolve("ReadmeTest.java"))) {
            own.add(line.strip());
        }
        String whole = String.join("\n", own);
        StringBuilder told = new StringBuilder();
        for (String line : block.split("\n")) {
            told.append(told.length() == 0 ? "" : "\n").append(line.strip());
        }
        Cork.due("the functions that feed are as told", whole.contains(told), true);
    }

    private static void names(String page) throws Exception {
        for (Method m : CorkConfessions.class.getDeclaredMethods()) {
            if (Modifier.isPublic(m.getModifiers())) {
                Cork.due("the page tells of " + m.getName(), page.contains("`" + m.getName() + "("), true);
                boolean byHelper = m.getName().equals("feed");
                Cork.due("an example calls " + m.getName(), byHelper || CALLED.contains(m.getName()), true);
            }
        }
        Set<String> there = new TreeSet<>();
        try (Stream<Path> files = Files.list(TESTS)) {
            files.map(f -> f.getFileName().toString()).filter(f -> f.endsWith("Test.java"))
                .forEach(f -> there.add(f.substring(0, f.length() - 5)));
        }
        Set<String> told = new TreeSet<>();
        Matcher rows = Pattern.compile("(?m)^\\| `(\\w+Test)` \\|").matcher(page);
        while (rows.find()) {
            told.add(rows.group(1));
        }
        Cork.due("tests there " + there + ", told " + told, there.equals(told), true);
    }

    static void feedText(CorkConfessions state, String text) {
        feedBytes(state, text.chars().toArray());
    }

    static void feedBytes(CorkConfessions state, int... bytes) {
        for (int from = 0; from < bytes.length; from += 20) {
            int[] words = new int[5];
            for (int i = 0; i < 20 && from + i < bytes.length; i++) {
                words[i / 4] |= (bytes[from + i] & 255) << 24 - i % 4 * 8;
            }
            state.feed(words[0], words[1], words[2], words[3], words[4]);
        }
    }
}
