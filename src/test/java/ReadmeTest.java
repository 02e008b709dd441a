import java.io.IOException;
import java.nio.file.Files;
import java.nio.file.Path;
import java.util.ArrayList;
import java.util.List;
import java.util.Map;
import java.util.TreeMap;
import java.util.regex.Matcher;
import java.util.regex.Pattern;

/** What README.md shows of the class is as the document says, and as the class answers. */
final class ReadmeTest {
    private static final Path README = Path.of("README.md");
    private static final Path DOCUMENT = Path.of("../shared/DOC.md");
    private static final Path THIS_TEST = Path.of("src/test/java/ReadmeTest.java");
    private static final Pattern PROMISE = Pattern.compile("^`([^`]*\\))(?: throws ([^`]*))?`: .*");
    private static final Pattern KIND = Pattern.compile("(\\d+) ([a-z' ]+) \\(([^)]*)\\)");
    private static final Pattern ANSWER = Pattern.compile("\\w+ (\\w+) = .*; +// (\\w+)(?::.*)?");

    public static void main(String[] args) throws IOException {
        List<String> readme = Files.readAllLines(README);
        List<String> document = Files.readAllLines(DOCUMENT);
        exampleIsTheOneBelow(readme);
        exampleAnswersAsItSays(readme);
        callsAreTheDocuments(readme, document);
        kindsAreTheDocuments(readme, document);
        Checks.end();
    }

    /** Each variable's value, by its name; the lines that name the vault are those of README.md. */
    private static Map<String, String> example() {
        RetentionVault vault = new RetentionVault();
        int old = vault.put(7, 1200, 1);
        int next = vault.put(7, 1500, 1);
        vault.retain(old, 30, false);
        boolean held = vault.hold(old, 5, true);
        vault.rule(0, -1, true, 10, 2);
        vault.rule(1, 1, false, 20, 4);
        int cooled = vault.tick(10);
        int from = vault.fetch(next, 5);
        int nothing = vault.tick(1);
        int size = vault.read(next);
        int kind = vault.entry(0, 1);
        boolean freed = vault.hold(old, 5, false);
        int guarded = vault.tick(18);
        int expired = vault.tick(1);
        int there = vault.figure(1);
        return told("old", old, "next", next, "held", held, "cooled", cooled, "from", from, "nothing", nothing,
                "size", size, "kind", kind, "freed", freed, "guarded", guarded, "expired", expired, "there", there);
    }

    private static Map<String, String> told(Object... namesAndValues) {
        Map<String, String> values = new TreeMap<>();
        for (int i = 0; i < namesAndValues.length; i += 2) {
            values.put(namesAndValues[i].toString(), namesAndValues[i + 1].toString());
        }
        return values;
    }

    private static List<String> shownExample(List<String> readme) {
        int first = readme.indexOf("```java") + 1;
        int behind = first + readme.subList(first, readme.size()).indexOf("```");
        return readme.subList(first, behind);
    }

    private static void exampleIsTheOneBelow(List<String> readme) throws IOException {
        StringBuilder shown = new StringBuilder();
        for (String line : shownExample(readme)) {
            shown.append('\n').append(line.replaceFirst(" *//.*", ""));
        }
        StringBuilder run = new StringBuilder();
        for (String line : Files.readAllLines(THIS_TEST)) {
            if (line.matches(" {8}(\\w+ \\w+ = )?(vault\\.|new RetentionVault).*")) {
                run.append('\n').append(line.trim());
            }
        }
        Checks.same("the example", run.toString(), shown.toString());
    }

    private static void exampleAnswersAsItSays(List<String> readme) {
        Map<String, String> shown = new TreeMap<>();
        for (String line : shownExample(readme)) {
            Matcher answer = ANSWER.matcher(line);
            if (answer.matches()) {
                shown.put(answer.group(1), answer.group(2));
            }
        }
        Checks.same("the example's answers", example().toString(), shown.toString());
    }

    /** The rows of the table with this heading, each one as its cells. */
    private static List<String[]> table(List<String> readme, String heading) {
        List<String[]> rows = new ArrayList<>();
        int first = readme.indexOf(heading) + 1;
        for (int i = first; i < readme.size() && !readme.get(i).startsWith("#"); i++) {
            String line = readme.get(i);
            if (line.startsWith("| ") && !line.startsWith("| --- ") && !readme.get(i + 1).startsWith("| --- ")) {
                rows.add(line.substring(2).split(" \\| ?"));
            }
        }
        return rows;
    }

    private static void callsAreTheDocuments(List<String> readme, List<String> document) {
        StringBuilder due = new StringBuilder();
        for (String line : document) {
            Matcher promise = PROMISE.matcher(line);
            if (promise.matches()) {
                String thrown = promise.group(2) == null ? "" : promise.group(2).replace("java.util.", "");
                due.append('\n').append(promise.group(1)).append(" throws ").append(thrown);
            }
        }
        StringBuilder shown = new StringBuilder();
        for (String[] row : table(readme, "### Calls")) {
            String thrown = row.length < 3 ? "" : row[2].replaceFirst(" ?\\|$", "");
            shown.append('\n').append(row[0]).append(" throws ").append(thrown);
        }
        Checks.same("the calls", due.toString(), shown.toString().replace("`", ""));
        Checks.due("as many calls as promises", 16, () -> table(readme, "### Calls").size());
    }

    private static void kindsAreTheDocuments(List<String> readme, List<String> document) {
        StringBuilder due = new StringBuilder();
        for (String line : document) {
            if (line.startsWith("THE LOG gets an ENTRY")) {
                Matcher kind = KIND.matcher(line.substring(line.indexOf("for each change: ")));
                while (kind.find()) {
                    due.append('\n').append(kind.group(1)).append(' ').append(kind.group(2)).append(", ")
                            .append(kind.group(3));
                }
            }
        }
        StringBuilder shown = new StringBuilder();
        for (String[] row : table(readme, "### Kinds of entries")) {
            shown.append('\n').append(row[0]).append(' ').append(row[1]).append(", ")
                    .append(row[2].replaceFirst(" ?\\|$", ""));
        }
        Checks.same("the kinds", due.toString(), shown.toString());
        Checks.due("as many kinds as the document has", 10, () -> table(readme, "### Kinds of entries").size());
    }
}
