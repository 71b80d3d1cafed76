import java.lang.reflect.Field;
import java.lang.reflect.Method;
import java.nio.file.Path;
import java.util.ArrayList;
import java.util.List;
import java.util.Map;
import java.util.regex.Matcher;
import java.util.regex.Pattern;

/**
 * The document from its first line to its last: the face as it stands there, the sentences that name no boundary and so
 * have no edge elsewhere, and whether every sentence of the terms and promises is quoted by some test.
 */
public final class DocumentTest {
    private static final Edges EDGES = new Edges();
    private static final Document DOCUMENT = new Document();
    private static final Path SOURCE = Path.of("src/main/java/SaltPlant.java");
    /** Words that only join what is quoted on both sides of them may stay unquoted, but no more at once. */
    private static final int JOINING_WORDS = 2;

    private static final List<String> FAULTS = new ArrayList<>();

    // ---- the public face

    private static void face() throws Exception {
        int methods = 0;
        int constants = 0;
        for (String line : DOCUMENT.face()) {
            if (line.contains("static final long")) {
                constants += constantsOf(line);
            } else if (!line.contains("SaltPlant()")) {
                methods++;
                hasMethod(line);
            }
        }
        if (constants != 8 || methods != 27) {
            FAULTS.add("the document's face was not read: " + constants + " constants, " + methods + " methods");
        }
        SaltPlant.class.getConstructor();
    }

    private static int constantsOf(String line) throws Exception {
        int found = 0;
        Matcher m = Pattern.compile("([A-Z]+) = (-\\d+)L").matcher(line);
        while (m.find()) {
            found++;
            Field f = SaltPlant.class.getField(m.group(1));
            if (f.getLong(null) != Long.parseLong(m.group(2))) {
                FAULTS.add(m.group(1) + " is " + f.getLong(null) + ", due is " + m.group(2));
            }
        }
        return found;
    }

    private static void hasMethod(String line) {
        String name = line.replaceAll("public long (\\w+)\\(.*", "$1");
        String inside = line.replaceAll(".*\\((.*)\\);", "$1");
        Class<?>[] types = new Class<?>[inside.isEmpty() ? 0 : inside.split(",").length];
        java.util.Arrays.fill(types, int.class);
        try {
            Method m = SaltPlant.class.getMethod(name, types);
            if (m.getReturnType() != long.class) {
                FAULTS.add(line + " answers no long");
            }
        } catch (NoSuchMethodException e) {
            FAULTS.add("there is no " + line);
        }
    }

    /** The class has its calls in the document's order, with what the interface says ahead of them. */
    private static void groups() {
        StringBuilder due = new StringBuilder();
        for (Document.Group group : DOCUMENT.groups()) {
            due.append("// ").append(group.says()).append('\n');
            group.calls().forEach(call -> due.append(call).append('\n'));
        }
        StringBuilder got = new StringBuilder();
        Matcher m = Pattern.compile("(?m)^    (?:(// ----.*)|public long (\\w+)\\(.*)$").matcher(Document.read(SOURCE));
        while (m.find()) {
            got.append(m.group(1) != null ? m.group(1) : m.group(2)).append('\n');
        }
        if (due.isEmpty() || !got.toString().startsWith(due.toString())) {
            FAULTS.add("the calls stand thus:\n" + got + "due is:\n" + due);
        }
    }

    // ---- what it is, and the terms

    /** Answers are promised up to the 512th call, and that one too, though each one ahead of it changed the plant. */
    private static void calls() {
        StringBuilder days = new StringBuilder();
        for (int day = 1; day < 512; day++) {
            days.append("days(1) = ").append(day).append('\n');
        }
        EDGES.edge(1, "An object is used for at most 512 calls after it has been made", days + "count(2) = 511");
    }

    private static void refusals() {
        EDGES.edge(1, "A call that is refused answers one of BAD, NO, FULL, SPENT, or a FINDING, of several the one that stands first with it, and changes nothing.", """
            flow(3, 5) = BAD           # there is no such SKIN now either
            flow(3, 0) = NO
            array(-1, 0) = BAD
            array(99999, 0) = NO
            hour(0, 1, 999)
            plan(101) = BAD            # nor is there a PLAN
            runs(-1) = BAD
            tank(0, 12) = BAD
            tank(0, 11) = NO
            lay(2, 0) = BAD            # the SHEET is MISSING besides
            lay(1, 0) = NOTHING
            joint(10, 2, 0) = BAD
            joint(10, 0, 0) = NO       # the SHEET is MISSING besides
            joint(0, 0, 0) = NOTHING
            sheet(2, -1) = BAD
            sheet(1, -1) = SIZE
            mark(2, -1, 0) = BAD
            mark(1, -1, 0) = NOTHING
            copy(0, -1, 2, -1, 1) = BAD
            copy(0, -1, 1, -1, 1) = NOTHING
            sheet(0, 1)
            copy(0, -1, 1, 0, 1) = NOTHING
            mark(0, -1, 0) = INDEX
            sheet(1, 1)
            copy(0, -1, 1, 0, 1) = INDEX
            """);
        EDGES.edge(13, "NONE: there is none.", """
            failure() = NONE
            swap() = NONE
            sheet(0, 24)
            joint(0, 0, 0) = NONE
            """);
        EDGES.edge(9, "All numbers are whole; / cuts (nothing below 0 is divided).", """
            feed(20000, 60000, 0)      # SALT / 100 is 600 above the pressure
            flow(0, 3) = 0
            flow(2, 3) = 0
            sweet(0) = 0
            sweet(2) = 0
            brine(1) = 1200000000
            rule(2, 100)
            power() = 0
            days(60)
            foul(1) = 0
            """);
    }

    private static void vessels() {
        EDGES.edge(2, "STAGES 0 .. 2 of 0 .. 4 VESSELS (stage 0 of 1, others of 0 at first) of LONG 1 .. 6 SKINS (3 at first, all VESSELS alike).", """
            count(0) = 1
            count(1) = 3
            stage(0, 4) = 1
            stage(1, 4) = 0
            stage(2, 4) = 0
            count(0) = 12
            count(1) = 36
            length(6) = 3
            count(1) = 72
            feed(1000, 0, 0)
            flow(5, 0) = 250
            flow(235, 0) = 250
            """);
        EDGES.edge(2, "BAD: stage, n (0 .. 4; of stage 0 1 .. 4).", """
            stage(-1, 1) = BAD
            stage(3, 1) = BAD
            stage(1, -1) = BAD
            stage(1, 5) = BAD
            stage(0, 0) = BAD
            stage(0, 5) = BAD
            stage(1, 0) = 0
            stage(0, 1) = 1
            """);
        EDGES.edge(5, "A SKIN is of a KIND: 0 SKIN, 1 TIGHT, 2 LOOSE, 3 FINE, under TIGHT (all are SKINS; KIND 0 at first); FOUL 0 .. 90 (0 at first).", """
            told(0, 0) = 0
            told(235, 0) = 0
            told(235, 1) = 0
            fresh(235, 3) = 0
            told(235, 0) = 3
            isOf(235, 0) = 1
            isOf(235, 1) = 1
            isOf(235, 2) = 0
            isOf(235, 3) = 1
            feed(20000, 0, 900)
            rule(3, 1)
            days(60)
            told(0, 1) = 90
            """);
        EDGES.edge(5, "Of a SKIN: what 0 KIND, 1 FOUL, 2 PASS, 3 LEAK. BAD.", """
            fresh(2, 1)
            feed(20000, 0, 900)
            rule(3, 10)
            days(1)
            told(2, 0) = 1
            told(2, 1) = 26            # 896 times 30 / 100 is 268
            told(2, 2) = 23            # 30 less 7
            told(2, 3) = 5
            told(2, 4) = BAD
            told(6, 0) = BAD
            """);
        EDGES.edge(4, "A SKIN (100 * stage, 10 * vessel and its number, of all 3 by 4 by 6) is NEW, of a KIND: its FOUL before. BAD.", """
            feed(20000, 0, 900)
            rule(3, 10)
            days(1)
            fresh(0, 2) = 36
            fresh(0, 2) = 0
            told(0, 0) = 2
            fresh(235, 3) = 0          # though there is no such VESSEL now
            told(235, 0) = 3
            fresh(240, 0) = BAD
            fresh(0, 4) = BAD
            """);
        EDGES.edge(7, "FEED: WATER 0 .. 20000, SALT 0 .. 60000 (in each of WATER), PRESSURE 0 .. 900 (1000, 3000, 60 at first).", """
            flow(0, 0) = 1000
            flow(0, 1) = 3000000
            flow(0, 2) = 60
            feed(20000, 60000, 900) = 0
            flow(0, 1) = 1200000000
            """);
        EDGES.edge(7, "FEED becomes as told: 0. BAD: water, salt, pressure.", """
            feed(5, 6, 7) = 0
            feed(20001, 0, 0) = BAD
            feed(0, 60001, 0) = BAD
            feed(0, 0, 901) = BAD
            flow(0, 0) = 5
            flow(0, 1) = 30
            flow(0, 2) = 7
            """);
        EDGES.edge(9, "A SKIN gets WATER w with GRAINS g (all its salt together) at a pressure p", """
            feed(7, 11, 13)
            flow(0, 0) = 7
            flow(0, 1) = 77
            flow(0, 2) = 13
            """);
        EDGES.edge(9, "A STAGE gets WATER and GRAINS: its VESSELS get", """
            stage(1, 1)
            stage(2, 2)
            flow(100, 0) = 967
            flow(100, 1) = 2999010
            flow(100, 2) = 54
            flow(200, 0) = 472
            flow(210, 0) = 471
            flow(200, 1) = 1500957     # 472 times 3179, and the 469 that are left over
            flow(210, 1) = 1497309
            flow(210, 2) = 48
            """);
    }

    // ---- limits, days, arrays

    private static void limits() {
        EDGES.edge(13, "at which what stays is below LEAST (1), or what it lets through is above MOST (2); of both 1.", """
            rule(1, 11)
            failure() = 2
            rule(0, 989)
            failure() = 1
            rule(1, 9999)
            failure() = 1
            """);
        EDGES.edge(8, "Two SKINS are CHANGED: 0.", """
            fresh(0, 2)
            change(0, 235) = 0
            told(0, 0) = 0
            told(235, 0) = 2
            """);
        EDGES.edge(8, "CHANGED may be two SKINS: they change their places, with KIND and FOUL.", """
            feed(20000, 0, 900)
            rule(3, 10)
            days(1)
            fresh(1, 3)
            change(1, 0) = 0
            told(0, 0) = 3
            told(0, 1) = 0
            told(1, 0) = 0
            told(1, 1) = 36
            """);
    }

    private static void searches() {
        EDGES.edge(17, "THE BEST CHANGE: 1000 * the lesser SKIN and the other one (which are not changed); NONE.", """
            length(2)
            fresh(1, 2)
            sweet(0) = 28              # 12 and 16
            swap() = 1
            told(0, 0) = 0
            told(1, 0) = 2
            sweet(0) = 28
            change(0, 1)
            sweet(0) = 29              # 18 and 11
            swap() = NONE
            """);
        EDGES.edge(17, "THE BEST CHANGE: of all pairs of SKINS in VESSELS that there are that by which SWEET WATER becomes the most", """
            length(2)
            fresh(1, 2)
            fresh(2, 2)                # there is no such now
            fresh(10, 2)
            swap() = 1
            """);
        EDGES.edge(18, "THE ARRAY: of all numbers a (1 .. 4), b (0 .. 4), c (0 .. 4; 0, if b is 0) of VESSELS of STAGES, and PRESSURES 100, 200, .. 900, those by which", """
            length(1)
            feed(1000, 0, 60)
            array(40, 0) = 100100      # at 100 a SKIN lets 40 through, at 98 39, at 96 38
            array(79, 0) = 100110
            array(117, 0) = 100111
            array(231, 0) = 100114
            array(232, 0) = 100123
            array(468, 0) = 100444
            array(469, 0) = 200114
            """);
        EDGES.edge(18, "THE ARRAY for WANT (0 .. 99999) and QUALITY (0 .. 60000): 1000 * the PRESSURE, 100 * a, 10 * b and c (nothing becomes so).", """
            length(1)
            feed(1000, 0, 60)
            array(232, 60000) = 100123
            count(0) = 1
            flow(0, 2) = 60
            """);
    }

    // ---- hours, probes, sheets

    private static void hours() {
        EDGES.edge(21, "In an HOUR the plant runs, giving OUT (0 .. 200; 10 at first) for PRICE, or not", """
            hour(0, 0, 7)
            hour(0, 1, 10)
            plan(9) = 7
            plan(10) = 0
            rule(6, 200)
            plan(0) = 7                # PRICE is that of the HOUR, however much it gives
            rule(6, 9)
            plan(0) = NO
            plan(1) = 7
            """);
        EDGES.edge(23, "It begins with a told content.", """
            hour(5, 1, 30)
            tank(0, 2) = 0
            tank(0, 3) = 10
            tank(30, 4) = 30
            tank(30, 5) = 0
            tank(100, 5) = 70
            """);
        EDGES.edge(22, "A PLAN: HOURS in which it runs, so that every NEED is met", """
            hour(5, 1, 30)
            runs(0) = 56
            runs(10) = 48
            runs(30) = 0
            hour(5, 1, 60)
            runs(0) = 63
            hour(5, 1, 61)
            runs(0) = NO
            """);
        EDGES.edge(21, "The cost of THE PLAN that begins with a content (0 .. what the TANK holds).", """
            hour(2, 1, 20)
            hour(0, 0, 5)
            hour(1, 0, 3)
            hour(2, 0, 4)
            plan(0) = 7
            plan(10) = 3
            plan(20) = 0
            """);
    }

    private static void probes() {
        EDGES.edge(24, "A PROFILE of a VESSEL on a SHEET: by SKINS SALT of what each lets through, as probed; THE JOINT: the first SKIN (of those for which the SHEET has a place) at which that is more", """
            sheet(0, 3)
            mark(0, 0, 30)             # as each of the three is due to let through
            mark(0, 1, 30)
            mark(0, 2, 30)
            joint(0, 0, 0) = NONE
            mark(0, 2, 31)
            joint(0, 0, 0) = 2
            mark(0, 0, 31)
            joint(0, 0, 0) = 0
            """);
        EDGES.edge(24, "THE JOINT of a VESSEL (10 * stage and vessel) by a SHEET: the number of the SKIN; NONE.", """
            stage(1, 2)
            sheet(1, 2)
            mark(1, 1, 99)
            joint(11, 1, 0) = 1        # the number in its VESSEL alone
            joint(11, 1, 99) = NONE
            """);
        EDGES.edge(25, "FINDINGS: NOTHING: a SHEET is MISSING; INDEX: there is no such place; SIZE: a number of places is below 0.", """
            mark(0, 0, 0) = NOTHING
            sheet(0, -1) = SIZE
            mark(0, 0, 0) = NOTHING
            sheet(0, 0) = 0
            mark(0, 0, 0) = INDEX
            """);
    }

    // ---- whether anything was left out

    private static void nothingLeftOut() {
        List<Document.Quote> quotes = Document.quotes();
        Map<Integer, String> promises = DOCUMENT.promises();
        if (promises.size() != 28) {
            FAULTS.add("the document's promises were not read: " + promises.keySet());
        }
        for (Document.Quote quote : quotes) {
            if (!DOCUMENT.says(quote.words())) {
                FAULTS.add("the document does not say \"" + quote.words() + "\"");
            }
        }
        unquoted("the terms", DOCUMENT.terms(), quotes.stream().map(Document.Quote::words).toList());
        promises.forEach((number, told) -> unquoted("promise " + number, told,
            quotes.stream().filter(q -> q.promise() == number).map(Document.Quote::words).toList()));
    }

    private static void unquoted(String where, String told, List<String> quotes) {
        boolean[] quoted = new boolean[told.length()];
        for (String words : quotes) {
            for (int at = told.indexOf(words); at >= 0; at = told.indexOf(words, at + 1)) {
                java.util.Arrays.fill(quoted, at, at + words.length(), true);
            }
        }
        StringBuilder left = new StringBuilder();
        for (int i = 0; i < quoted.length; i++) {
            left.append(quoted[i] ? '\n' : told.charAt(i));
        }
        for (String words : left.toString().split("\n+")) {
            String plain = words.replaceAll("[^A-Za-z0-9]+", " ").trim();
            if (plain.split(" ").length > JOINING_WORDS) {
                FAULTS.add(where + ": no test quotes \"" + words.trim() + "\"");
            }
        }
    }

    public static void main(String[] args) throws Exception {
        face();
        groups();
        calls();
        refusals();
        vessels();
        limits();
        searches();
        hours();
        probes();
        nothingLeftOut();
        FAULTS.forEach(System.out::println);
        EDGES.end();
        if (!FAULTS.isEmpty()) {
            System.exit(1);
        }
    }
}
