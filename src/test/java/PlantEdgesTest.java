/** Promises 1 to 8, the plant: each sentence of the document that names a boundary case, by a run of its own. */
public final class PlantEdgesTest {
    private static final Edges EDGES = new Edges();

    /** One skin, and water without salt: it lets PASS hundredths of its pressure through, and FOUL is all of that. */
    private static final String ONE_SKIN = """
        length(1)
        rule(3, 1)
        """;

    private static String forEverySkin(String line) {
        StringBuilder lines = new StringBuilder();
        for (int place = 0; place < 72; place++) {
            int skin = 100 * (place / 24) + 10 * (place / 6 % 4) + place % 6;
            lines.append(line.replace("?", Integer.toString(skin))).append('\n');
        }
        return lines.toString();
    }

    private static void newObject() {
        EDGES.edge(1, "stage 0 of 1, others of 0 at first", """
            count(0) = 1
            stage(0, 1) = 1
            stage(1, 0) = 0
            stage(2, 0) = 0
            """);
        EDGES.edge(1, "3 at first, all VESSELS alike", """
            count(1) = 3
            length(3) = 3
            """);
        EDGES.edge(1, "KIND 0 at first", forEverySkin("told(?, 0) = 0"));
        EDGES.edge(1, "FOUL 0 .. 90 (0 at first)", forEverySkin("told(?, 1) = 0"));
        EDGES.edge(1, "1000, 3000, 60 at first", """
            flow(0, 0) = 1000
            flow(0, 1) = 3000000
            flow(0, 2) = 60
            """);
        EDGES.edge(1, "LEAST WATER that must stay behind each SKIN (0 .. 9999; 0 at first)", "rule(0, 5) = 0");
        EDGES.edge(1, "MOST that a SKIN may let through (0 .. 9999; 9999 at first)", "rule(1, 5) = 9999");
        EDGES.edge(1, "GIVEN BACK hundredths (0 .. 100; 0 at first)", "rule(2, 5) = 0");
        EDGES.edge(1, "RATE (1 .. 1000; 100 at first)", "rule(3, 5) = 100");
        EDGES.edge(1, "WASHING (0 .. 30; 0, at first: never)", "rule(4, 5) = 0");
        EDGES.edge(1, "A TANK holds 0 .. 200 (100 at first)", """
            plan(100) = 0
            plan(101) = BAD
            rule(5, 5) = 100
            """);
        EDGES.edge(1, "giving OUT (0 .. 200; 10 at first)", "rule(6, 5) = 10");
        firstHours();
        EDGES.edge(1, "SHEETS 0, 1 are rows of shorts with 0 to 24 places, or MISSING (at first)", """
            count(3) = 0
            mark(0, 0, 1) = NOTHING
            mark(1, 0, 1) = NOTHING
            """);
        EDGES.edge(1, "A DAY, of all SKINS in VESSELS that there are", "count(2) = 0");
        EDGES.edge(1, "An object is used for at most 512 calls after it has been made", "fresh(0, 1)\n".repeat(510) + """
            isOf(0, 1) = 1
            told(0, 0) = 1        # the last one
            """);
    }

    private static void firstHours() {
        StringBuilder lines = new StringBuilder();
        for (int hour = 0; hour < 12; hour++) {
            lines.append("hour(" + hour + ", 0, 7) = 0\n" + "hour(" + hour + ", 1, 8) = 0\n");
        }
        EDGES.edge(1, "a PRICE 0 .. 99 and a NEED 0 .. 999 each (0 at first)", lines.toString());
    }

    private static void stage() {
        EDGES.range(2, "STAGES 0 .. 2", "stage(?, 1)", 0, 2);
        EDGES.range(2, "of 0 .. 4 VESSELS", "stage(1, ?)", 0, 4);
        EDGES.range(2, "of 0 .. 4 VESSELS", "stage(2, ?)", 0, 4);
        EDGES.range(2, "of stage 0 1 .. 4", "stage(0, ?)", 1, 4);
        EDGES.edge(2, "A STAGE has n VESSELS: how many it had.", """
            stage(2, 4) = 0
            stage(2, 1) = 4       # told as it was, though there is no such STAGE
            stage(2, 5) = BAD
            stage(2, 0) = 1
            stage(0, 4) = 1
            stage(0, 0) = BAD
            stage(0, 4) = 4
            count(0) = 4
            """);
        EDGES.edge(2, "A STAGE with 0 VESSELS is none, nor are those behind it.", """
            stage(2, 4) = 0
            count(0) = 1
            count(1) = 3
            flow(200, 0) = NO
            brine(2) = 54
            stage(1, 1) = 0
            count(0) = 6
            count(1) = 18
            flow(200, 2) = 48
            brine(2) = 42
            stage(1, 0) = 1
            count(0) = 1
            flow(100, 0) = NO
            flow(200, 0) = NO
            brine(2) = 54
            stage(1, 1) = 0
            count(0) = 6          # those behind it have their VESSELS still
            stage(2, 0) = 4
            """);
        EDGES.edge(2, "(SKINS in VESSELS that go stay as they are.)", """
            stage(1, 4)
            fresh(130, 2)
            feed(20000, 0, 900)
            rule(3, 10)
            days(1)
            told(130, 1) = 53     # 894 * 60 / 100 is 536
            stage(1, 3) = 4
            rule(4, 1)
            days(2)
            told(130, 0) = 2
            told(130, 1) = 53
            stage(1, 0) = 3
            days(2)
            stage(1, 4) = 0
            told(130, 0) = 2
            told(130, 1) = 53
            """);
    }

    private static void length() {
        EDGES.range(3, "LONG 1 .. 6", "length(?)", 1, 6);
        EDGES.edge(3, "LONG becomes n: what it was.", """
            length(6) = 3
            count(1) = 6
            flow(5, 2) = 50
            length(7) = BAD
            length(1) = 6
            count(1) = 1
            flow(0, 2) = 60
            flow(1, 2) = NO
            length(0) = BAD
            length(1) = 1
            """);
        EDGES.edge(3, "all VESSELS alike", """
            stage(0, 4)
            stage(1, 2)
            length(2)
            count(1) = 12
            flow(31, 2) = 58
            flow(32, 2) = NO
            flow(111, 2) = 54
            flow(112, 2) = NO
            """);
        EDGES.edge(3, "(Likewise.)", """
            length(6)
            fresh(5, 1)
            feed(20000, 0, 900)
            rule(3, 10)
            days(1)
            told(5, 1) = 26       # 890 * 30 / 100 is 267
            length(5) = 6
            rule(4, 1)
            days(2)
            length(6) = 5
            told(5, 0) = 1
            told(5, 1) = 26
            """);
    }

    private static void fresh() {
        EDGES.everySkin(4, "fresh(?, 1)");
        EDGES.range(4, "A SKIN is of a KIND: 0 SKIN, 1 TIGHT, 2 LOOSE, 3 FINE", "fresh(0, ?)", 0, 3);
        EDGES.edge(4, "its FOUL before", ONE_SKIN + """
            fresh(0, 2) = 0
            feed(1000, 0, 900)
            days(1)
            fresh(0, 4) = BAD
            fresh(0, 3) = 90
            fresh(0, 3) = 0
            """);
        EDGES.edge(4, "NEW makes a SKIN's FOUL 0 and its KIND as told.", ONE_SKIN + """
            feed(1000, 0, 900)
            days(1)
            told(0, 1) = 90
            fresh(0, 0) = 90      # of the KIND that it was
            told(0, 0) = 0
            told(0, 1) = 0
            told(0, 2) = 40
            fresh(0, 3) = 0
            told(0, 0) = 3
            told(0, 1) = 0
            """);
        EDGES.edge(4, "of all 3 by 4 by 6", """
            fresh(235, 2) = 0     # in a VESSEL that there isn't
            told(235, 0) = 2
            told(234, 0) = 0
            told(225, 0) = 0
            told(135, 0) = 0
            flow(235, 0) = NO
            """);
    }

    private static void told() {
        EDGES.everySkin(5, "told(?, 0)");
        EDGES.range(5, "what 0 KIND, 1 FOUL, 2 PASS, 3 LEAK", "told(0, ?)", 0, 3);
        EDGES.edge(5, "PASS of a SKIN (hundredths): 40, of TIGHT ones 30, of LOOSE ones 60, of FINE ones 10 less than of TIGHT ones", """
            told(0, 2) = 40
            fresh(0, 1)
            told(0, 2) = 30
            fresh(0, 2)
            told(0, 2) = 60
            fresh(0, 3)
            told(0, 2) = 20
            """);
        EDGES.edge(5, "LEAK (thousandths of salt): 10, TIGHT 5, LOOSE 25, FINE 3 less than TIGHT.", """
            told(0, 3) = 10
            fresh(0, 1)
            told(0, 3) = 5
            fresh(0, 2)
            told(0, 3) = 25
            fresh(0, 3)
            told(0, 3) = 2
            """);
        passOfFoul(0, 5, 2, 40);
        passOfFoul(0, 8, 3, 39);
        passOfFoul(0, 130, 52, 20);
        passOfFoul(0, 225, 90, 4);
        passOfFoul(1, 10, 3, 30);
        passOfFoul(1, 14, 4, 29);
        passOfFoul(1, 300, 90, 3);
        passOfFoul(2, 2, 1, 60);
        passOfFoul(2, 4, 2, 59);
        passOfFoul(2, 139, 83, 11);
        passOfFoul(2, 150, 90, 6);
        passOfFoul(3, 20, 4, 20);
        passOfFoul(3, 25, 5, 19);
        passOfFoul(3, 450, 90, 2);
        EDGES.edge(5, "FOUL 0 .. 90 (0 at first)", ONE_SKIN + """
            feed(1000, 0, 223)
            days(1)
            told(0, 1) = 89
            days(1)
            told(0, 1) = 90       # 223 * 5 / 100 more would be 100
            days(1)
            told(0, 1) = 90
            told(0, 3) = 10       # LEAK stays as it is
            """);
    }

    /** At that pressure one day makes a new skin of the kind so foul. */
    private static void passOfFoul(int kind, int pressure, int foul, int pass) {
        EDGES.edge(5, "less PASS times FOUL / 100", ONE_SKIN
            + "fresh(0, " + kind + ")\n"
            + "feed(1000, 0, " + pressure + ")\n"
            + "days(1)\n"
            + "told(0, 1) = " + foul + "\n"
            + "told(0, 2) = " + pass + "\n");
    }

    private static void isOf() {
        EDGES.everySkin(6, "isOf(?, 0)");
        EDGES.range(6, "A SKIN is of a KIND: 0 SKIN, 1 TIGHT, 2 LOOSE, 3 FINE", "isOf(0, ?)", 0, 3);
        EDGES.edge(6, "all are SKINS", """
            fresh(1, 1)
            fresh(2, 2)
            fresh(3, 3)
            isOf(0, 0) = 1
            isOf(1, 0) = 1
            isOf(2, 0) = 1
            isOf(3, 0) = 1
            """);
        EDGES.edge(6, "3 FINE, under TIGHT", """
            fresh(1, 1)
            fresh(2, 2)
            fresh(3, 3)
            isOf(3, 3) = 1
            isOf(3, 1) = 1
            isOf(3, 2) = 0
            isOf(1, 1) = 1
            isOf(1, 2) = 0
            isOf(1, 3) = 0        # TIGHT is not under FINE
            isOf(2, 1) = 0
            isOf(2, 2) = 1
            isOf(2, 3) = 0
            isOf(0, 1) = 0
            isOf(0, 2) = 0
            isOf(0, 3) = 0
            """);
        EDGES.edge(6, "Whether a SKIN is of a KIND: 1, 0.", ONE_SKIN + """
            isOf(235, 0) = 1      # in a VESSEL that there isn't
            fresh(235, 3)
            isOf(235, 1) = 1
            fresh(0, 1)
            feed(1000, 0, 900)
            days(1)
            isOf(0, 1) = 1        # FOUL is nothing to it
            """);
    }

    private static void feed() {
        EDGES.range(7, "WATER 0 .. 20000", "feed(?, 1, 1)", 0, 20000);
        EDGES.range(7, "SALT 0 .. 60000 (in each of WATER)", "feed(1, ?, 1)", 0, 60000);
        EDGES.range(7, "PRESSURE 0 .. 900", "feed(1, 1, ?)", 0, 900);
        EDGES.edge(7, "FEED becomes as told: 0.", """
            feed(20000, 60000, 900) = 0
            flow(0, 0) = 20000
            flow(0, 1) = 1200000000
            flow(0, 2) = 900
            feed(20001, 60000, 900) = BAD
            feed(20000, 60001, 900) = BAD
            feed(20000, 60000, 901) = BAD
            feed(-1, 0, 0) = BAD
            feed(0, -1, 0) = BAD
            feed(0, 0, -1) = BAD
            flow(0, 1) = 1200000000
            feed(0, 0, 0) = 0
            flow(0, 0) = 0
            flow(0, 1) = 0
            flow(0, 2) = 0
            """);
        EDGES.edge(7, "SALT 0 .. 60000 (in each of WATER)", """
            feed(0, 60000, 900) = 0
            flow(0, 1) = 0        # without WATER there is no salt
            feed(1, 60000, 900) = 0
            flow(0, 1) = 60000
            """);
    }

    private static void change() {
        EDGES.everySkinBut(234, 8, "change(?, 234)");
        EDGES.everySkinBut(234, 8, "change(234, ?)");
        EDGES.edge(8, "BAD: also if they are one.", """
            change(0, 0) = BAD
            change(235, 235) = BAD
            change(300, 300) = BAD
            change(-1, -1) = BAD
            change(0, 1) = 0
            """);
        EDGES.edge(8, "they change their places, with KIND and FOUL", ONE_SKIN + """
            fresh(0, 1)
            fresh(235, 3)         # in a VESSEL that there isn't
            feed(1000, 0, 10)
            days(1)
            told(0, 1) = 3
            change(0, 235) = 0
            told(0, 0) = 3
            told(0, 1) = 0
            told(235, 0) = 1
            told(235, 1) = 3
            change(0, 235) = 0    # and back
            told(0, 0) = 1
            told(0, 1) = 3
            told(235, 0) = 3
            told(235, 1) = 0
            """);
    }

    public static void main(String[] args) {
        newObject();
        stage();
        length();
        fresh();
        told();
        isOf();
        feed();
        change();
        EDGES.end();
    }
}
