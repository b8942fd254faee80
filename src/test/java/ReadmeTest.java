import java.lang.reflect.Method;
import java.nio.file.Files;
import java.nio.file.Path;
import java.util.List;
import java.util.regex.Matcher;
import java.util.regex.Pattern;
import java.util.stream.Collectors;
import java.util.stream.Stream;

/** README.md: each call in it answers what stands behind it, and it names all calls and all tests. */
public final class ReadmeTest {
    private static final Pattern NEW = Pattern.compile("(?:RingWord )?x = new RingWord\\(\\);");
    private static final Pattern FEED = Pattern.compile("feed\\(x, \"([^\"]*)\"\\);");
    private static final Pattern CALL = Pattern.compile("x\\.(\\w+\\([^)]*\\)); +// (-?\\d+|BAD|STATE|FULL|NONE)\\b.*");

    private static Run run = Run.fresh();

    public static void main(String[] args) throws Exception {
        Run.about("RingWord");
        String page = Files.readString(Path.of("README.md"));
        Matcher block = Pattern.compile("(?s)```java\n(.*?)```").matcher(page);
        StringBuilder calls = new StringBuilder();
        while (block.find()) {
            // The first block is the helper by which the others feed their texts.
            if (!block.group(1).startsWith("static void feed(")) {
                block.group(1).lines().forEach(ReadmeTest::row);
                calls.append(block.group(1));
            }
        }
        for (Method m : RingWord.class.getMethods()) {
            if (m.getDeclaringClass() == RingWord.class) {
                Check.holds("the page shows " + m.getName() + "()", calls.indexOf("feed") >= 0
                        && (m.getName().equals("feed") || calls.indexOf("x." + m.getName() + "(") >= 0));
                Check.holds("its table has " + m.getName() + "()", page.contains("`" + m.getName() + "("));
            }
        }
        for (String test : tests()) {
            Check.holds("its table has " + test, page.contains("| " + test + " |"));
        }
        Check.close("ReadmeTest");
    }

    private static void row(String row) {
        Matcher feed = FEED.matcher(row);
        Matcher call = CALL.matcher(row);
        if (NEW.matcher(row).matches()) {
            run = Run.fresh();
        } else if (feed.matches()) {
            run.feed(feed.group(1));
        } else if (call.matches()) {
            run.rows(call.group(1) + " = " + call.group(2));
        } else {
            Check.holds("\"" + row + "\" is a call with its answer", false);
        }
    }

    private static List<String> tests() throws Exception {
        try (Stream<Path> files = Files.list(Path.of("src/test/java"))) {
            return files.map(f -> f.getFileName().toString()).filter(f -> f.endsWith("Test.java"))
                    .map(f -> f.substring(0, f.length() - 5)).collect(Collectors.toList());
        }
    }
}
