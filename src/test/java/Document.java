import java.io.IOException;
import java.io.UncheckedIOException;
import java.nio.file.Files;
import java.nio.file.Path;
import java.util.ArrayList;
import java.util.List;
import java.util.Map;
import java.util.TreeMap;
import java.util.regex.Matcher;
import java.util.regex.Pattern;

/** The document's own text, cut where its headings and its lines for the interface cut it. */
final class Document {
    /** What the interface says ahead of some calls, and the calls. */
    record Group(String says, List<String> calls) {
    }

    /** Words that a test quotes, and the promise for which it quotes them. */
    record Quote(int promise, String words) {
    }

    private static final Path TEXT = Path.of("../shared/DOC.md");
    private static final Path TESTS = Path.of("src/test/java");
    private static final Pattern GROUP = Pattern.compile("Ahead of the calls (.*) the interface says: (.*)\\.");
    private static final Pattern QUOTE = Pattern.compile("EDGES\\.(?:edge|range)\\(\\s*(\\d+),\\s*\"([^\"]+)\"");

    private final String text = read(TEXT);

    static String read(Path path) {
        try {
            return Files.readString(path);
        } catch (IOException e) {
            throw new UncheckedIOException(e);
        }
    }

    /** The lines of the public face, without the class's own. */
    List<String> face() {
        String block = part("```java\n", "```");
        return block.lines().map(String::trim).filter(line -> line.endsWith(";")).toList();
    }

    List<Group> groups() {
        List<Group> all = new ArrayList<>();
        Matcher m = GROUP.matcher(text);
        while (m.find()) {
            all.add(new Group(m.group(2), List.of(m.group(1).replace("`", "").split(", "))));
        }
        return all;
    }

    boolean says(String words) {
        return oneLine(text).contains(words);
    }

    /** What the terms say, as one line, without the lines for the interface. */
    String terms() {
        String told = GROUP.matcher(part("## Terms\n", "## Promise 1:")).replaceAll("");
        return oneLine(told.replace("```text", "").replace("```", "").replaceAll("======== \\d", ""));
    }

    /** What each promise says behind its signature, as one line. */
    Map<Integer, String> promises() {
        Map<Integer, String> all = new TreeMap<>();
        Matcher m = Pattern.compile("(?s)## Promise (\\d+): [^\n]*\n\\s*`[^`]*`:(.*?)(?=\n## )").matcher(text);
        while (m.find()) {
            all.put(Integer.parseInt(m.group(1)), oneLine(m.group(2)));
        }
        return all;
    }

    private String part(String from, String to) {
        int start = text.indexOf(from) + from.length();
        return text.substring(start, text.indexOf(to, start));
    }

    private static String oneLine(String told) {
        return told.replaceAll("\\s+", " ").trim();
    }

    /** All words of the document that some test of the project quotes. */
    static List<Quote> quotes() {
        List<Quote> all = new ArrayList<>();
        try (var files = Files.list(TESTS)) {
            for (Path file : files.filter(f -> f.toString().endsWith("Test.java")).sorted().toList()) {
                Matcher m = QUOTE.matcher(read(file));
                while (m.find()) {
                    all.add(new Quote(Integer.parseInt(m.group(1)), m.group(2)));
                }
            }
        } catch (IOException e) {
            throw new UncheckedIOException(e);
        }
        return all;
    }
}
