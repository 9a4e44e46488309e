import java.io.IOException;
import java.nio.file.Files;
import java.nio.file.Path;
import java.util.ArrayList;
import java.util.List;
import java.util.Set;
import java.util.TreeSet;
import java.util.regex.Matcher;
import java.util.regex.Pattern;

/** README.md: its examples are one run of calls that answer what it says, and every call has a row of its own. */
public final class ReadmeTest {
    private static final Path README = Path.of("README.md");
    private static final Path DOCUMENT = Path.of("../shared/DOC.md");
    private static final Path FEED = Path.of("src/test/java/Check.java");

    private static final Pattern BLOCK = Pattern.compile("(?s)```java\n(.*?)```");
    private static final Pattern FACE = Pattern.compile("public int (\\w+)\\(([^)]*)\\);");
    private static final Pattern ROW = Pattern.compile("(?m)^\\| `(\\w+\\([^)]*\\))` \\|");
    private static final Pattern EXAMPLE = Pattern.compile(
        "(?:x\\.(\\w+)\\(([^)]*)\\)|feed\\(x, \"([^\"]*)\"\\)); +// (-?[0-9]+|[A-Z]+)(?:: .*)?");

    private static final Check c = new Check();
    private static final Set<String> shown = new TreeSet<>();
    private static TypeHouse x = new TypeHouse();
    private static int calls;

    public static void main(String[] args) throws IOException {
        String readme = Files.readString(README);
        everyCallHasARow(readme, Files.readString(DOCUMENT));
        Matcher blocks = BLOCK.matcher(readme);
        while (blocks.find()) {
            if (blocks.group(1).startsWith("static ")) {
                isTheFeedOfTheTests(blocks.group(1));
            } else {
                blocks.group(1).lines().forEach(ReadmeTest::example);
            }
        }
        c.part("README, all examples");
        c.due("calls of the face are shown", shown.size(), facesOf(Files.readString(DOCUMENT)).size());
        c.due("calls are at most 512", Math.min(calls, 512), calls);
        c.end();
    }

    /** Rows name the parameters as the document does, and stand in its order. */
    private static void everyCallHasARow(String readme, String document) {
        c.part("README, rows");
        List<String> rows = new ArrayList<>();
        Matcher row = ROW.matcher(readme);
        while (row.find()) {
            rows.add(row.group(1));
        }
        c.due("rows are " + rows + ", equal", rows.equals(facesOf(document)) ? 1 : 0, 1);
    }

    private static List<String> facesOf(String document) {
        List<String> faces = new ArrayList<>();
        Matcher face = FACE.matcher(document);
        while (face.find()) {
            faces.add(face.group(1) + "(" + face.group(2).replaceAll("\\b(int|long) ", "") + ")");
        }
        return faces;
    }

    private static void isTheFeedOfTheTests(String block) throws IOException {
        c.part("README, feed of a text");
        String tests = Files.readString(FEED).replaceAll("\\s+", " ");
        c.due("stands in Check", tests.contains(block.replaceAll("\\s+", " ").strip()) ? 1 : 0, 1);
    }

    private static void example(String line) {
        c.part("README, " + line);
        if (line.equals("TypeHouse x = new TypeHouse();")) {
            x = new TypeHouse();
            return;
        }
        Matcher example = EXAMPLE.matcher(line);
        boolean isOne = example.matches();
        c.due("is an example", isOne ? 1 : 0, 1);
        if (isOne) {
            int got = example.group(1) == null ? fed(example.group(3)) : called(example.group(1), example.group(2));
            c.due("the call", got, answerOf(example.group(4)));
        }
    }

    private static int fed(String text) {
        String bytes = text.replace("\\n", "\n");
        calls += (bytes.length() + 7) / 8;
        return Check.feed(x, bytes);
    }

    private static int called(String name, String list) {
        String[] words = list.isEmpty() ? new String[0] : list.split(", ");
        long[] args = new long[words.length];
        for (int k = 0; k < words.length; k++) {
            args[k] = numberOf(words[k]);
        }
        calls++;
        shown.add(name);
        return new Call(name, args).on(x);
    }

    private static long numberOf(String word) {
        String digits = word.replaceFirst("L$", "").replaceFirst("^0[xb]", "");
        return Long.parseLong(digits, word.startsWith("0x") ? 16 : word.startsWith("0b") ? 2 : 10);
    }

    private static int answerOf(String word) {
        return switch (word) {
            case "NONE" -> TypeHouse.NONE;
            case "BAD" -> TypeHouse.BAD;
            case "STATE" -> TypeHouse.STATE;
            case "FULL" -> TypeHouse.FULL;
            default -> Integer.parseInt(word);
        };
    }
}
