import java.io.IOException;
import java.nio.file.DirectoryStream;
import java.nio.file.Files;
import java.nio.file.Path;
import java.util.ArrayList;
import java.util.List;
import java.util.regex.Matcher;
import java.util.regex.Pattern;

/** README.md says how to use the class and how to run its tests, and what it says is so. */
public final class ReadmeTest {
    private static final Pattern CALL = Pattern.compile("p\\.(\\w+\\(.*\\)); *// (-?\\d+)\\b.*");
    private static final Pattern KIND = Pattern.compile("\\| (\\d) \\| `([^`]*)` \\|.*");
    private static final Pattern REASON = Pattern.compile("\\| (-\\d) \\| (?:`([^`]*)`, (\\d+))? *\\|.*");

    public static void main(String[] args) throws IOException {
        Due due = new Due();
        List<String> readme = Files.readAllLines(Path.of("README.md"));
        exampleAnswersAsTold(due, readme);
        kindsAreAsTold(due, readme);
        reasonsAreAsTold(due, readme);
        everyTestIsTold(due, readme);
        due.end();
    }

    private static void exampleAnswersAsTold(Due due, List<String> readme) {
        List<String> told = new ArrayList<>();
        for (String line : readme) {
            Matcher m = CALL.matcher(line);
            if (m.matches()) {
                told.add(m.group(1) + " = " + m.group(2));
            }
        }
        due.is("README.md's example", String.join("\n  ", told), String.join("\n  ", example()));
    }

    /** Every method of the face, on a program that is right and on one that is wrong. */
    private static List<String> example() {
        PageWords p = new PageWords();
        List<String> rows = new ArrayList<>();
        rows.add("type(0x2F7820312E35L, 6) = " + p.type(0x2F7820312E35L, 6));
        rows.add("cut() = " + p.cut());
        rows.add("place() = " + p.place());
        rows.add("words() = " + p.words());
        rows.add("kind(0) = " + p.kind(0));
        rows.add("number(0) = " + p.number(0));
        rows.add("begin(0) = " + p.begin(0));
        rows.add("texts() = " + p.texts());
        rows.add("size(0) = " + p.size(0));
        rows.add("at(0, 0) = " + p.at(0, 0));
        rows.add("kind(1) = " + p.kind(1));
        rows.add("number(1) = " + p.number(1));
        rows.add("begin(1) = " + p.begin(1));
        rows.add("kind(2) = " + p.kind(2));
        rows.add("type(0x612029L, 3) = " + p.type(0x612029L, 3));
        rows.add("cut() = " + p.cut());
        rows.add("place() = " + p.place());
        rows.add("words() = " + p.words());
        return rows;
    }

    /** The kind that a row tells is that of its program's last word. */
    private static void kindsAreAsTold(Due due, List<String> readme) {
        int rows = 0;
        for (String line : readme) {
            Matcher m = KIND.matcher(line);
            if (m.matches()) {
                Counted x = new Counted();
                Due.type(x, m.group(2));
                x.cut();
                rows++;
                due.is("README.md's kinds in their order", Integer.parseInt(m.group(1)), rows);
                due.is("README.md's kind of " + m.group(2), x.kind(x.words() - 1), rows);
            }
        }
        due.is("kinds in README.md", rows, 7);
    }

    private static void reasonsAreAsTold(Due due, List<String> readme) {
        int rows = 0;
        for (String line : readme) {
            Matcher m = REASON.matcher(line);
            if (!m.matches()) {
                continue;
            }
            rows++;
            due.is("README.md's reasons in their order", Integer.parseInt(m.group(1)), -rows);
            if (m.group(2) != null) {
                Counted x = new Counted();
                Due.type(x, m.group(2));
                due.is("README.md's reason for " + m.group(2), x.cut(), -rows);
                due.is("README.md's place in " + m.group(2), x.place(), Integer.parseInt(m.group(3)));
            }
        }
        due.is("reasons in README.md", rows, 8);
    }

    private static void everyTestIsTold(Due due, List<String> readme) throws IOException {
        String text = String.join("\n", readme);
        due.is("README.md tells how to run the tests", text.contains("\n    .ci/run\n") ? 1 : 0, 1);
        try (DirectoryStream<Path> tests = Files.newDirectoryStream(Path.of("src/test/java"), "*Test.java")) {
            for (Path test : tests) {
                String name = test.getFileName().toString().replace(".java", "");
                due.is("README.md tells of " + name, text.contains("\n| `" + name + "` |") ? 1 : 0, 1);
            }
        }
    }
}
