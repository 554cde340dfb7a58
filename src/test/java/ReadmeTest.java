import java.nio.file.Files;
import java.nio.file.Path;
import java.util.ArrayList;
import java.util.List;
import java.util.Set;
import java.util.TreeSet;
import java.util.regex.Matcher;
import java.util.regex.Pattern;
import java.util.stream.Stream;

/** README.md holds of the class as it stands: its example, the calls that it names, the tests that it lists. */
public final class ReadmeTest {
    private static final Checks CHECKS = new Checks("ReadmeTest");

    public static void main(String[] args) throws Exception {
        List<String> readme = Files.readAllLines(Path.of("README.md"));
        example(code(between(readme, "```java", "```")));
        calls(String.join("\n", readme));
        tests(readme);
        commands(String.join("\n", readme));
        CHECKS.end();
    }

    /** The example of README.md, line by line: what it says of an answer stands behind its line. */
    private static void example(List<String> told) throws Exception {
        // example
        KindredBooks books = new KindredBooks();

        int ann = books.entry(0);
        books.type(0x416e6e204c6565L);
        int name = books.line(0, ann, KindredBooks.NAME);
        int length = books.write(name, 1);
        int sign = books.pageAt(0);

        int anne = books.entry(1);
        books.type(0x416e6e65204c6565L);
        books.line(1, anne, KindredBooks.NAME);
        int heard = books.hear(0, 1);

        int suggestions = books.suggest(0, 600);
        int likeness = books.suggested(0, 2);
        int join = books.join(0, ann, anne);
        int groups = books.groups(0);
        int shown = books.shownAt(0, anne, KindredBooks.NAME, 0);
        int taken = books.undo(0);
        boolean holds = books.holds(0, join);
        // end of the example
        List<String> source = Files.readAllLines(Path.of("src/test/java/ReadmeTest.java"));
        List<String> here = code(between(source, "        // example", "        // end of the example"));
        CHECKS.same("the example of README.md", answers(told, false), answers(here, false));
        String due = "ann 0 length 7 sign 97 heard 2 suggestions 1 likeness 683 groups 1 shown 3 taken 4 holds false";
        CHECKS.same("what README.md says of the answers", answers(told, true), due);
        String got = "ann " + ann + " length " + length + " sign " + sign + " heard " + heard + " suggestions "
            + suggestions + " likeness " + likeness + " groups " + groups + " shown " + shown + " taken " + taken
            + " holds " + holds;
        CHECKS.same("the answers", got, due);
    }

    /** The lines of code one behind the other; or the names and answers of those whose remark tells one. */
    private static String answers(List<String> lines, boolean isOfRemarks) {
        StringBuilder all = new StringBuilder();
        for (String line : lines) {
            String[] parts = line.split(" *// ");
            Matcher name = Pattern.compile("(?:int|boolean) (\\w+) = .*").matcher(parts[0]);
            Matcher answer = Pattern.compile("(?:.* is )?(\\d+|false|true)\\b.*").matcher(parts.length > 1 ? parts[1] : "");
            if (!isOfRemarks) {
                all.append(parts[0]).append('\n');
            } else if (name.matches() && answer.matches()) {
                all.append(all.length() > 0 ? " " : "").append(name.group(1)).append(' ').append(answer.group(1));
            }
        }
        return all.toString();
    }

    private static List<String> between(List<String> lines, String start, String end) {
        int first = lines.indexOf(start) + 1;
        return lines.subList(first, first + lines.subList(first, lines.size()).indexOf(end));
    }

    private static List<String> code(List<String> lines) {
        List<String> code = new ArrayList<>();
        for (String line : lines) {
            if (!line.isBlank()) {
                code.add(line.trim());
            }
        }
        return code;
    }

    /** Each call of the face stands in the table of calls once, and no other one. */
    private static void calls(String readme) {
        List<String> named = new ArrayList<>();
        String table = readme.substring(readme.indexOf("| what for |"), readme.indexOf("`suggest()`, `search()`"));
        Matcher matcher = Pattern.compile("`(\\w+)`").matcher(table);
        while (matcher.find()) {
            named.add(matcher.group(1));
        }
        Set<String> due = new TreeSet<>();
        for (java.lang.reflect.Method method : KindredBooks.class.getMethods()) {
            if (method.getDeclaringClass() == KindredBooks.class) {
                due.add(method.getName());
            }
        }
        CHECKS.same("the calls in README.md", new TreeSet<>(named).toString(), due.toString());
        CHECKS.same("how often they are named", named.size(), due.size());
    }

    /** Each test of the project stands in the table of tests, and no other one; each class in the list of these. */
    private static void tests(List<String> readme) throws Exception {
        Set<String> listed = new TreeSet<>();
        for (String line : readme) {
            Matcher matcher = Pattern.compile("\\| (\\w+Test) \\| .+ \\|").matcher(line);
            if (matcher.matches()) {
                listed.add(matcher.group(1));
            }
        }
        Set<String> due = new TreeSet<>();
        try (Stream<Path> files = Files.list(Path.of("src/test/java"))) {
            for (Path file : files.toList()) {
                String name = file.getFileName().toString();
                if (name.endsWith("Test.java")) {
                    due.add(name.substring(0, name.length() - 5));
                }
            }
        }
        CHECKS.same("the tests in README.md", listed.toString(), due.toString());
        String built = String.join("\n", readme.subList(readme.indexOf("## How the class is built"), readme.size()));
        for (Class<?> inside : KindredBooks.class.getDeclaredClasses()) {
            CHECKS.isTrue("README.md tells of " + inside.getSimpleName(), built.contains("`" + inside.getSimpleName() + "`"));
        }
    }

    /** The files that README.md names are there, and .ci/run can be run. */
    private static void commands(String readme) {
        for (String file : new String[] {"src/main/java/KindredBooks.java", "../shared/DOC.md", "../shared/LANGUAGE.md", ".ci/run"}) {
            CHECKS.isTrue("README.md names " + file, readme.contains(file));
            CHECKS.isTrue("there is " + file, Files.exists(Path.of(file)));
        }
        CHECKS.isTrue(".ci/run can be run", Files.isExecutable(Path.of(".ci/run")));
    }
}
