import java.io.IOException;
import java.nio.file.Files;
import java.nio.file.Path;
import java.util.Map;
import java.util.TreeMap;
import java.util.regex.Matcher;
import java.util.regex.Pattern;

/** What README.md says of the class: its example, and its tables of calls and of what they throw. */
public final class ReadmeTests extends Checks {
    private static final Path README = Path.of("README.md");
    private static final Path DOCUMENT = Path.of("../shared/DOC.md");

    /** Each statement of the example stands in README.md, and answers as is written behind it there. */
    private static void theExample() throws IOException {
        String text = Files.readString(README);
        QuotaAlmshouse house = new QuotaAlmshouse();
        int tenant = house.addTenant(2, 10);
        int directory = house.addDirectory(0);
        house.setBound('d', directory, 0, 20, 30, 2);
        int file = house.make(tenant, directory, 1, 25);
        is("grace", house.graceLeft('d', directory, 0), 2);
        is("day", house.pass(), 1);
        refused("write", BOUND, () -> house.write(file, 31));
        is("reason", house.reason(), 'd');
        String[] statements = {"int tenant = house.addTenant(2, 10);", "int directory = house.addDirectory(0);",
            "house.setBound('d', directory, 0, 20, 30, 2);", "int file = house.make(tenant, directory, 1, 25);",
            "house.graceLeft('d', directory, 0);", "house.pass();", "house.write(file, 31);",
            "UnsupportedOperationException", "house.reason();"};
        int at = text.indexOf("QuotaAlmshouse house = new QuotaAlmshouse();");
        for (String statement : statements) {
            int next = text.indexOf(statement, at + 1);
            is(statement, at >= 0 && next > at, true);
            at = next;
        }
    }

    /** The tables name the calls of the document's face, each with its exceptions in their order. */
    private static void theTables() throws IOException {
        Map<String, String> due = new TreeMap<>();
        String face = Files.readString(DOCUMENT);
        face = face.substring(face.indexOf("```java"), face.indexOf("## Terms"));
        Matcher calls = Pattern.compile("public \\w+ (\\w+)\\(([^)]*)\\)(?: throws ([^;]+))?;").matcher(face);
        while (calls.find()) {
            String parameters = calls.group(2).replaceAll("\\w+ (\\w+)", "$1");
            due.put(calls.group(1) + "(" + parameters + ")", calls.group(3) == null ? "" : calls.group(3));
        }
        Map<String, String> told = new TreeMap<>();
        Matcher rows = Pattern.compile("(?m)^\\| `(\\w+\\([^)]*\\))` \\|.*\\|(.*)\\|$").matcher(Files.readString(README));
        while (rows.find()) {
            Matcher names = Pattern.compile("\\w+Exception").matcher(rows.group(2));
            StringBuilder exceptions = new StringBuilder();
            while (names.find()) {
                exceptions.append(exceptions.isEmpty() ? "" : ", ").append(names.group());
            }
            told.put(rows.group(1), exceptions.toString());
        }
        is("calls", due.size(), 34);
        is("tables", told, due);
    }

    /** The list of what .ci/run runs names each test class. */
    private static void theTestsAreNamed() throws IOException {
        String text = Files.readString(README);
        try (var tests = Files.list(Path.of("src/test/java"))) {
            for (Path test : (Iterable<Path>) tests::iterator) {
                String name = test.getFileName().toString().replace(".java", "");
                is(name, !name.endsWith("Tests") || text.contains("`" + name + "`"), true);
            }
        }
    }

    public static void main(String[] args) throws Exception {
        runAll(ReadmeTests.class);
    }
}
