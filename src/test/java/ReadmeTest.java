import java.io.IOException;
import java.lang.reflect.Method;
import java.nio.file.DirectoryStream;
import java.nio.file.Files;
import java.nio.file.Path;
import java.util.List;
import java.util.Map;
import java.util.Set;
import java.util.TreeSet;
import java.util.regex.MatchResult;
import java.util.regex.Matcher;
import java.util.regex.Pattern;

/** README.md: its example is run, its tables are compared with what there is. It is run from the project's root. */
public final class ReadmeTest {
    private static final Pattern BLOCK = Pattern.compile("(?s)```java\n(.*?)```");
    private static final Pattern FED = Pattern.compile("feed\\(x, \"(.*)\"\\);");
    private static final Pattern ANSWERED = Pattern.compile("x\\.(\\w+\\(.*?\\));\\s*// (\\S+).*");
    private static final Pattern CALL = Pattern.compile("(?m)^\\| (\\d+) \\| `(\\w+)\\((.*?)\\)` \\|");
    private static final Pattern TEST = Pattern.compile("(?m)^\\| `(\\w+Test)` \\|");
    private static final Map<String, Integer> NAMED = Map.of("NONE", DimBooks.NONE, "UNKNOWN", DimBooks.UNKNOWN,
        "OUTSIDE", DimBooks.OUTSIDE, "NOT", DimBooks.NOT, "FULL", DimBooks.FULL);

    public static void main(String[] args) throws IOException {
        String page = Files.readString(Path.of("README.md"));
        List<String> blocks = BLOCK.matcher(page).results().map(m -> m.group(1)).toList();
        Check.due("blocks of Java: a function, an example", blocks.size(), 2);
        function(blocks.get(0));
        example(blocks.get(1).lines().toList());
        calls(page);
        tests(page);
        Check.finish("ReadmeTest");
    }

    /** The function that feeds a text is the one that the tests use. */
    private static void function(String block) throws IOException {
        String used = Files.readString(Path.of("src/test/java/Check.java"));
        Check.due("the function in README.md is Check's", used.contains(block.indent(4)) ? 1 : 0, 1);
    }

    private static void example(List<String> rows) {
        Check.same("the first row", rows.get(0), "DimBooks x = new DimBooks();");
        Run x = Run.fresh();
        for (String row : rows.subList(1, rows.size())) {
            Matcher fed = FED.matcher(row);
            Matcher answered = ANSWERED.matcher(row);
            if (fed.matches()) {
                x.feeds(fed.group(1));
            } else if (answered.matches()) {
                Integer named = NAMED.get(answered.group(2));
                x.due(answered.group(1), named != null ? named : Integer.parseInt(answered.group(2)));
            } else {
                Check.same("a row without an answer", row, "");
            }
        }
    }

    /** The calls stand in the order of their promises, of which the first is the constructor. */
    private static void calls(String page) {
        List<MatchResult> told = CALL.matcher(page).results().toList();
        Set<String> names = new TreeSet<>();
        for (int i = 0; i < told.size(); i++) {
            Check.due("the number of " + told.get(i).group(2), Integer.parseInt(told.get(i).group(1)), i + 2);
            String inside = told.get(i).group(3);
            names.add(told.get(i).group(2) + " " + (inside.isEmpty() ? 0 : inside.split(", ").length));
        }
        Set<String> face = new TreeSet<>();
        for (Method m : DimBooks.class.getMethods()) {
            if (m.getDeclaringClass() == DimBooks.class) {
                face.add(m.getName() + " " + m.getParameterCount());
            }
        }
        Check.same("the calls in README.md", names.toString(), face.toString());
    }

    private static void tests(String page) throws IOException {
        Set<String> told = new TreeSet<>(TEST.matcher(page).results().map(m -> m.group(1)).toList());
        Set<String> there = new TreeSet<>();
        try (DirectoryStream<Path> files = Files.newDirectoryStream(Path.of("src/test/java"), "*Test.java")) {
            for (Path file : files) {
                there.add(file.getFileName().toString().replace(".java", ""));
            }
        }
        Check.same("the tests in README.md", told.toString(), there.toString());
    }
}
