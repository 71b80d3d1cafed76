/** Promises 24 to 28, probes and sheets: each sentence that names a boundary case, by a run of its own. */
public final class SheetEdgesTest {
    private static final Edges EDGES = new Edges();

    /** A sheet of five places, 1 to 5, and one of three, 7 to 9. */
    private static final String TWO_SHEETS = """
        sheet(0, 5)
        mark(0, 0, 1)
        mark(0, 1, 2)
        mark(0, 2, 3)
        mark(0, 3, 4)
        mark(0, 4, 5)
        sheet(1, 3)
        mark(1, 0, 7)
        mark(1, 1, 8)
        mark(1, 2, 9)
        """;

    private static String sheetIs(int s, int... marks) {
        StringBuilder lines = new StringBuilder();
        for (int i = 0; i < marks.length; i++) {
            lines.append("mark(" + s + ", " + i + ", " + marks[i] + ") = " + marks[i] + "\n");
        }
        return lines + "mark(" + s + ", " + marks.length + ", 0) = INDEX\n";
    }

    private static void jointOfWhich() {
        for (int vessel = -20; vessel <= 60; vessel++) {
            boolean is = vessel >= 0 && vessel / 10 < 3 && vessel % 10 < 4;
            String all = "stage(0, 4)\nstage(1, 4)\nstage(2, 4)\nsheet(0, 1)\nmark(0, 0, 9999)\n";
            EDGES.edge(24, "THE JOINT of a VESSEL (10 * stage and vessel)", all + "joint(" + vessel + ", 0, 0) = " + (is ? "0" : "BAD"));
        }
        for (String far : new String[] {"MIN", "MAX", "100", "214748365", "429496730"}) {
            EDGES.edge(24, "BAD: vessel, sheet, off (0 .. 9999)", Edges.RICH + "joint(" + far + ", 0, 0) = BAD");
        }
        EDGES.range(24, "SHEETS 0, 1", "joint(0, ?, 0)", 0, 1);
        EDGES.range(24, "off (0 .. 9999)", "joint(0, 0, ?)", 0, 9999);
        EDGES.edge(24, "NO: there is no such now; NOTHING.", """
            joint(0, 0, 0) = NOTHING
            joint(1, 0, 0) = NO   # NO stands first
            joint(10, 0, 0) = NO
            joint(1, 2, 0) = BAD  # and BAD ahead of that
            joint(1, 0, 10000) = BAD
            joint(4, 0, 0) = BAD
            joint(0, 2, 0) = BAD
            joint(0, 0, -1) = BAD
            sheet(1, 6)
            joint(0, 0, 0) = NOTHING
            joint(0, 1, 0) = NONE
            joint(3, 1, 0) = NO
            stage(0, 4)
            joint(3, 1, 0) = NONE
            stage(2, 1)
            joint(20, 1, 0) = NO  # a STAGE behind none
            stage(1, 1)
            joint(20, 1, 0) = NONE
            joint(11, 1, 0) = NO
            """);
    }

    private static void joint() {
        EDGES.edge(24, "that is more than s times LEAK / 1000 there by more than a told number", """
            sheet(0, 1)
            mark(0, 0, 30)
            joint(0, 0, 0) = NONE # 3000 * 10 / 1000 is 30
            mark(0, 0, 31)
            joint(0, 0, 0) = 0
            joint(0, 0, 1) = NONE
            mark(0, 0, 32)
            joint(0, 0, 1) = 0
            mark(0, 0, 10029)
            joint(0, 0, 9999) = NONE
            mark(0, 0, 10030)
            joint(0, 0, 9999) = 0
            mark(0, 0, 32767)
            joint(0, 0, 9999) = 0
            mark(0, 0, 32768)
            joint(0, 0, 0) = NONE # as a short it is -32768
            """);
        EDGES.edge(24, "s times LEAK / 1000", """
            sheet(0, 1)
            feed(1000, 199, 60)
            mark(0, 0, 1)
            joint(0, 0, 0) = NONE # 1.99 is cut
            mark(0, 0, 2)
            joint(0, 0, 0) = 0
            feed(1000, 200, 60)
            joint(0, 0, 0) = NONE
            fresh(0, 1)
            joint(0, 0, 0) = 0
            """);
        EDGES.edge(24, "the first SKIN (of those for which the SHEET has a place)", """
            sheet(0, 0)
            joint(0, 0, 0) = NONE # no place at all
            sheet(0, 2)
            mark(0, 1, 100)
            joint(0, 0, 0) = 1
            mark(0, 0, 100)
            joint(0, 0, 0) = 0
            sheet(0, 24)
            mark(0, 3, 100)
            joint(0, 0, 0) = NONE # a place that there is no SKIN for
            length(4)
            joint(0, 0, 0) = 3
            length(6)
            mark(0, 3, 0)
            mark(0, 5, 100)
            mark(0, 6, 100)
            joint(0, 0, 0) = 5
            length(5)
            joint(0, 0, 0) = NONE
            """);
        EDGES.edge(24, "(0, if w is 0)", """
            sheet(0, 2)
            mark(0, 1, 1)
            feed(5, 1000, 900)
            flow(1, 0) = 0
            joint(0, 0, 0) = 1    # to a SKIN without WATER no salt comes
            mark(0, 1, 0)
            joint(0, 0, 0) = NONE
            feed(0, 60000, 900)
            joint(0, 0, 0) = NONE
            mark(0, 0, 1)
            joint(0, 0, 0) = 0
            """);
    }

    private static void sheet() {
        EDGES.range(25, "SHEETS 0, 1", "sheet(?, 1)", 0, 1);
        EDGES.edge(25, "rows of shorts with 0 to 24 places", """
            sheet(0, 24) = 24
            mark(0, 23, 1) = 0
            mark(0, 24, 1) = INDEX
            sheet(0, 25) = BAD
            mark(0, 23, 1) = 1
            sheet(0, MAX) = BAD
            sheet(0, 0) = 0
            mark(0, 0, 1) = INDEX
            count(3) = 1          # a SHEET without places is not MISSING
            sheet(0, 1) = 1
            mark(0, 0, 1) = 0
            mark(0, 1, 1) = INDEX
            """);
        EDGES.edge(25, "BAD: sheet, n above 24; SIZE.", """
            sheet(0, -1) = SIZE
            sheet(1, MIN) = SIZE
            count(3) = 0          # MISSING as it was
            mark(0, 0, 1) = NOTHING
            sheet(0, 25) = BAD
            sheet(2, -1) = BAD    # BAD stands first
            sheet(-1, -1) = BAD
            sheet(2, 25) = BAD
            sheet(MIN, MIN) = BAD
            sheet(0, 3) = 3
            mark(0, 2, 6)
            sheet(0, -1) = SIZE
            mark(0, 2, 6) = 6
            """);
        EDGES.edge(25, "A SHEET has n places, all 0: n.", """
            sheet(0, 3)
            mark(0, 0, 4)
            mark(0, 2, 6)
            sheet(0, 3) = 3
            """ + sheetIs(0, 0, 0, 0) + """
            mark(0, 2, 6)
            sheet(0, 1) = 1
            sheet(0, 3) = 3
            """ + sheetIs(0, 0, 0, 0) + """
            sheet(1, 2) = 2
            mark(1, 1, 9)
            sheet(0, 2) = 2
            """ + sheetIs(1, 0, 9) + sheetIs(0, 0, 0));
    }

    private static void mark() {
        EDGES.range(26, "SHEETS 0, 1", "mark(?, 0, 1)", 0, 1);
        EDGES.edge(26, "BAD: sheet; NOTHING; INDEX.", """
            mark(0, 0, 1) = NOTHING
            mark(1, -1, 1) = NOTHING # NOTHING stands ahead of INDEX
            mark(1, 24, 1) = NOTHING
            mark(2, 0, 1) = BAD   # and BAD ahead of both
            mark(-1, 99, 1) = BAD
            sheet(0, 3)
            mark(1, 0, 1) = NOTHING
            mark(0, 0, 1) = 0
            mark(0, 2, 3) = 0
            mark(0, -1, 1) = INDEX
            mark(0, 3, 1) = INDEX
            mark(0, 23, 1) = INDEX
            mark(0, 24, 1) = INDEX
            mark(0, MIN, 1) = INDEX
            mark(0, MAX, 1) = INDEX
            mark(2, 3, 1) = BAD
            sheet(1, 0)
            mark(1, 0, 1) = INDEX # there is no place at all
            """);
        EDGES.edge(26, "A place of a SHEET becomes v (as a short): what it was.", """
            sheet(1, 1)
            mark(1, 0, 32767) = 0
            mark(1, 0, 32768) = 32767
            mark(1, 0, -32768) = -32768
            mark(1, 0, -32769) = -32768
            mark(1, 0, 65535) = 32767
            mark(1, 0, 65536) = -1
            mark(1, 0, MAX) = 0
            mark(1, 0, MIN) = -1
            mark(1, 0, 70000) = 0
            mark(1, 0, 0) = 4464
            """);
    }

    private static void copyOfWhich() {
        EDGES.range(27, "SHEETS 0, 1", "copy(?, 0, 1, 0, 1)", 0, 1);
        EDGES.range(27, "SHEETS 0, 1", "copy(0, 0, ?, 0, 1)", 0, 1);
        EDGES.edge(27, "BAD; NOTHING; INDEX.", """
            copy(0, 0, 0, 0, 0) = NOTHING # though it is none
            copy(0, 0, 1, 0, 1) = NOTHING
            copy(0, -1, 1, -1, -1) = NOTHING # NOTHING stands ahead of INDEX
            copy(2, 0, 0, 0, 1) = BAD # and BAD ahead of both
            copy(0, 0, -1, 9, 99) = BAD
            sheet(0, 2)
            copy(0, 0, 1, 0, 1) = NOTHING
            copy(1, 0, 0, 0, 1) = NOTHING
            copy(1, 9, 0, 9, 9) = NOTHING
            copy(0, 0, 2, 0, 0) = BAD
            sheet(1, 0)
            copy(0, 0, 1, 0, 1) = INDEX
            copy(1, 0, 0, 0, 1) = INDEX
            copy(0, 0, 1, 0, 0) = 0
            copy(1, 0, 1, 0, 0) = 0
            """);
        EDGES.edge(27, "INDEX: there is no such place", TWO_SHEETS + """
            copy(0, 4, 1, 2, 1) = 1
            copy(0, 5, 1, 2, 1) = INDEX
            copy(0, 4, 1, 3, 1) = INDEX
            copy(0, -1, 1, 0, 1) = INDEX
            copy(0, 0, 1, -1, 1) = INDEX
            copy(0, 2, 1, 0, 3) = 3
            copy(0, 3, 1, 0, 3) = INDEX
            copy(0, 2, 1, 1, 3) = INDEX
            copy(0, 0, 1, 0, 4) = INDEX
            copy(0, 0, 0, 0, 6) = INDEX
            copy(0, MAX, 1, 0, 1) = INDEX
            copy(0, 0, 1, MAX, 1) = INDEX
            copy(0, 1, 1, 1, MAX) = INDEX
            copy(0, MIN, 1, 0, 1) = INDEX
            copy(0, 0, 1, MIN, 1) = INDEX
            copy(0, MAX, 1, MAX, MAX) = INDEX
            """);
        EDGES.edge(27, "So many places of a SHEET", TWO_SHEETS + """
            copy(0, 5, 1, 3, 0) = 0 # none, behind the last
            copy(0, 6, 1, 0, 0) = INDEX
            copy(0, 0, 1, 4, 0) = INDEX
            copy(0, -1, 1, 0, 0) = INDEX
            copy(0, 0, 1, 0, -1) = INDEX
            copy(0, 1, 1, 1, -1) = INDEX
            copy(0, 0, 1, 0, MIN) = INDEX
            """ + sheetIs(0, 1, 2, 3, 4, 5) + sheetIs(1, 7, 8, 9));
    }

    private static void copy() {
        EDGES.edge(27, "So many places of a SHEET come to another one (or the same), as they were: many.", TWO_SHEETS
            + "copy(0, 3, 1, 1, 2) = 2\n" + sheetIs(1, 7, 4, 5) + sheetIs(0, 1, 2, 3, 4, 5));
        EDGES.edge(27, "(or the same), as they were", TWO_SHEETS
            + "copy(0, 0, 0, 1, 4) = 4\n" + sheetIs(0, 1, 1, 2, 3, 4) + sheetIs(1, 7, 8, 9));
        EDGES.edge(27, "(or the same), as they were", TWO_SHEETS
            + "copy(0, 1, 0, 0, 4) = 4\n" + sheetIs(0, 2, 3, 4, 5, 5));
        EDGES.edge(27, "(or the same), as they were", TWO_SHEETS
            + "copy(0, 0, 0, 0, 5) = 5\n" + sheetIs(0, 1, 2, 3, 4, 5));
        EDGES.edge(27, "(From a SHEET, its place, to a SHEET, its place.)", TWO_SHEETS
            + "copy(1, 0, 0, 2, 3) = 3\n" + sheetIs(0, 1, 2, 7, 8, 9) + sheetIs(1, 7, 8, 9));
        EDGES.edge(27, "rows of shorts with 0 to 24 places", """
            sheet(0, 24)
            mark(0, 0, 32768)
            mark(0, 23, 5)
            sheet(1, 24)
            copy(0, 0, 1, 0, 25) = INDEX
            copy(0, 0, 1, 0, 24) = 24
            mark(1, 0, 0) = -32768
            mark(1, 23, 0) = 5
            """);
    }

    private static void count() {
        EDGES.range(28, "How many: 0 VESSELS that there are, 1 SKINS in them, 2 DAYS, 3 SHEETS that are not MISSING.", "count(?)", 0, 3);
        EDGES.edge(28, "0 VESSELS that there are, 1 SKINS in them", """
            length(1)
            count(0) = 1
            count(1) = 1
            stage(2, 4)
            count(0) = 1          # a STAGE behind none
            stage(0, 4)
            stage(1, 4)
            length(6)
            count(0) = 12
            count(1) = 72
            stage(1, 0)
            count(0) = 4
            count(1) = 24
            """);
        EDGES.edge(28, "2 DAYS", """
            count(2) = 0
            days(0) = BAD
            count(2) = 0
            days(1)
            count(2) = 1
            days(60)
            count(2) = 61
            """);
        EDGES.edge(28, "3 SHEETS that are not MISSING", """
            count(3) = 0
            sheet(1, -1) = SIZE
            count(3) = 0
            sheet(1, 0)
            count(3) = 1
            sheet(1, 24)
            count(3) = 1
            sheet(0, 0)
            count(3) = 2
            """);
    }

    public static void main(String[] args) {
        jointOfWhich();
        joint();
        sheet();
        mark();
        copyOfWhich();
        copy();
        count();
        EDGES.end();
    }
}
