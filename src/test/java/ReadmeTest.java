import java.nio.file.Files;
import java.nio.file.Path;
import java.util.regex.Matcher;
import java.util.regex.Pattern;

/** README.md: its examples answer what it says they do, and it tells of every call and every test. */
public final class ReadmeTest {
    private static final Pattern EXAMPLE = Pattern.compile("plant\\.(\\w+\\(.*?\\));\\s*// (-?\\w+)(?:: .*)?");
    private static final int LEAST_EXAMPLES = 30;

    private static final Check CHECK = new Check();
    private static final String README = Document.read(Path.of("README.md"));

    private static void examples() {
        int found = 0;
        Matcher block = Pattern.compile("(?s)```java\n(.*?)```").matcher(README);
        while (block.find()) {
            SaltPlant plant = null;
            for (String line : block.group(1).split("\n")) {
                Matcher example = EXAMPLE.matcher(line);
                if (line.equals("SaltPlant plant = new SaltPlant();")) {
                    plant = new SaltPlant();
                } else if (plant != null && example.matches()) {
                    found++;
                    Call call = Call.of(example.group(1) + " = " + example.group(2)).get(0);
                    CHECK.due("README.md: " + call.text(), call.on(plant), call.due());
                } else {
                    CHECK.same("README.md has a line of code that can't be held against the class", line, "");
                }
            }
        }
        CHECK.due("whether README.md has examples", found >= LEAST_EXAMPLES ? 1 : 0, 1);
    }

    /** A row of the table for each line of the document's face, with its arguments' names. */
    private static void everyCall() {
        int promise = 1;
        for (String line : new Document().face()) {
            if (line.contains("static final")) {
                continue;
            }
            String call = line.replaceAll("public (?:long )?|int |;", "");
            String row = "| " + promise + " | `" + (promise == 1 ? "new " : "") + call + "` |";
            CHECK.due("whether README.md has the row " + row, README.contains(row) ? 1 : 0, 1);
            promise++;
        }
        CHECK.due("rows of the table", promise, 29);
    }

    private static void everyTest() throws Exception {
        CHECK.due("whether README.md tells of .ci/run", README.contains(".ci/run") ? 1 : 0, 1);
        try (var files = Files.list(Path.of("src/test/java"))) {
            for (Path file : files.filter(f -> f.toString().endsWith("Test.java")).toList()) {
                String name = file.getFileName().toString().replace(".java", "");
                CHECK.due("whether README.md tells of " + name, README.contains("`" + name + "`") ? 1 : 0, 1);
            }
        }
    }

    public static void main(String[] args) throws Exception {
        examples();
        everyCall();
        everyTest();
        CHECK.end();
    }
}
