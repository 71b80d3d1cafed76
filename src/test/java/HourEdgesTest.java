/** Promises 19 to 23, hours: each sentence of the document that names a boundary case, by a run of its own. */
public final class HourEdgesTest {
    private static final Edges EDGES = new Edges();

    private static String forEveryHour(String line) {
        StringBuilder lines = new StringBuilder();
        for (int hour = 0; hour < 12; hour++) {
            lines.append(line.replace("?", Integer.toString(hour))).append('\n');
        }
        return lines.toString();
    }

    private static void hour() {
        EDGES.range(19, "HOURS 0 .. 11", "hour(?, 0, 1)", 0, 11);
        EDGES.range(19, "PRICE (what 0), NEED (1) of an HOUR becomes v", "hour(0, ?, 1)", 0, 1);
        EDGES.range(19, "a PRICE 0 .. 99", "hour(0, 0, ?)", 0, 99);
        EDGES.range(19, "a NEED 0 .. 999 each", "hour(0, 1, ?)", 0, 999);
        EDGES.edge(19, "PRICE (what 0), NEED (1) of an HOUR becomes v: what it was.", """
            hour(0, 0, 99) = 0
            hour(0, 0, 100) = BAD
            hour(0, 1, 999) = 0
            hour(0, 1, 1000) = BAD
            hour(11, 0, 98) = 0
            hour(11, 1, 998) = 0
            hour(12, 1, 1) = BAD
            hour(-1, 0, 1) = BAD
            hour(0, 0, 0) = 99
            hour(0, 1, 0) = 999
            hour(11, 0, 0) = 98
            hour(11, 1, 0) = 998
            hour(11, 1, 0) = 0
            """);
    }

    private static void lay() {
        EDGES.range(20, "NEEDS (what 1) or PRICES (0) of all HOURS come from a SHEET", "lay(?, 0)", 0, 1);
        EDGES.range(20, "SHEETS 0, 1", "lay(0, ?)", 0, 1);
        EDGES.edge(20, "BAD; NOTHING.", """
            lay(0, 0) = NOTHING
            lay(1, 1) = NOTHING
            lay(2, 0) = BAD       # BAD stands first
            lay(-1, 1) = BAD
            lay(0, 2) = BAD
            lay(0, -1) = BAD
            sheet(1, 1)
            lay(0, 0) = NOTHING   # the other SHEET is none of it
            lay(0, 1) = 1
            """);
        EDGES.edge(20, "how many places were taken", """
            sheet(0, 0)
            lay(0, 0) = 0
            sheet(0, 1)
            lay(0, 0) = 1
            sheet(0, 11)
            lay(0, 0) = 11
            sheet(0, 12)
            lay(0, 0) = 12
            sheet(0, 13)
            lay(0, 0) = 12
            sheet(0, 24)
            lay(1, 0) = 12
            """);
        EDGES.edge(20, "without a place 0", forEveryHour("hour(?, 0, 50)") + forEveryHour("hour(?, 1, 500)") + """
            sheet(0, 11)
            mark(0, 10, 7)
            lay(1, 0) = 11
            hour(10, 1, 1) = 7
            hour(11, 1, 1) = 0
            hour(0, 1, 1) = 0
            sheet(0, 0)
            lay(1, 0) = 0         # none of them has a place
            """ + forEveryHour("hour(?, 1, 1) = 0") + forEveryHour("hour(?, 0, 1) = 50"));
        layNotAsTold();
        EDGES.edge(20, "of all HOURS come from a SHEET, place by place", """
            sheet(1, 24)
            mark(1, 0, 1)
            mark(1, 11, 12)
            mark(1, 12, 13)
            lay(1, 1) = 12
            hour(0, 1, 0) = 1
            hour(11, 1, 0) = 12
            hour(0, 0, 0) = 0
            mark(1, 0, 5) = 1     # the SHEET stays as it is
            mark(1, 11, 5) = 12
            """);
    }

    private static void layNotAsTold() {
        String sheet = """
            sheet(0, 7)
            mark(0, 0, 99)
            mark(0, 1, 100)
            mark(0, 2, -1)
            mark(0, 3, 999)
            mark(0, 4, 1000)
            mark(0, 5, -32768)
            mark(0, 6, 32767)
            """ + forEveryHour("hour(?, 0, 50)") + forEveryHour("hour(?, 1, 500)");
        EDGES.edge(20, "not as told counts as 0", sheet + """
            lay(0, 0) = 7
            hour(0, 0, 0) = 99
            hour(1, 0, 0) = 0
            hour(2, 0, 0) = 0
            hour(3, 0, 0) = 0
            hour(6, 0, 0) = 0
            hour(0, 1, 0) = 500
            """);
        EDGES.edge(20, "not as told counts as 0", sheet + """
            lay(1, 0) = 7
            hour(0, 1, 0) = 99
            hour(1, 1, 0) = 100
            hour(2, 1, 0) = 0
            hour(3, 1, 0) = 999
            hour(4, 1, 0) = 0
            hour(5, 1, 0) = 0
            hour(6, 1, 0) = 0
            hour(0, 0, 0) = 50
            """);
    }

    private static void plan() {
        EDGES.range(21, "begins with a content (0 .. what the TANK holds)", "plan(?)", 0, 150);
        EDGES.edge(21, "A TANK holds 0 .. 200", """
            plan(100) = 0
            plan(101) = BAD
            rule(5, 200)
            plan(200) = 0
            plan(201) = BAD
            rule(5, 0)
            plan(0) = 0
            plan(1) = BAD
            plan(-1) = BAD
            """);
        EDGES.edge(21, "BAD; NO: there is none.", """
            hour(0, 1, 999)
            plan(0) = NO
            plan(100) = NO
            plan(101) = BAD       # BAD stands first
            plan(-1) = BAD
            """);
        EDGES.edge(21, "so that every NEED is met", """
            hour(0, 0, 7)
            hour(0, 1, 10)
            plan(0) = 7           # what it gives in that HOUR serves
            plan(9) = 7
            plan(10) = 0
            hour(0, 1, 11)
            plan(0) = NO
            plan(1) = 7
            plan(10) = 7
            plan(11) = 0
            hour(0, 1, 0)
            hour(11, 1, 1)
            plan(0) = 0           # the last HOUR costs nothing
            hour(11, 0, 99)
            plan(0) = 0           # nor does the one ahead of it
            plan(1) = 0
            """);
        EDGES.edge(21, "THE PLAN is the cheapest", forEveryHour("hour(?, 0, 99)") + forEveryHour("hour(?, 1, 10)") + """
            plan(0) = 1188
            plan(10) = 1089
            plan(99) = 297
            plan(100) = 198
            rule(5, 200)
            plan(120) = 0
            plan(119) = 99
            rule(5, 0)
            plan(0) = 1188        # nothing is kept, nothing need be
            hour(11, 1, 11)
            plan(0) = NO
            """);
    }

    private static void planTank() {
        EDGES.edge(21, "what the TANK does not hold is lost", """
            hour(1, 1, 20)
            rule(5, 10)
            plan(0) = 0           # 10 held and 10 given
            plan(10) = 0
            hour(1, 1, 21)
            plan(0) = NO
            plan(10) = NO
            rule(5, 9)
            hour(1, 1, 19)
            plan(0) = 0           # one of ten is lost
            plan(9) = 0
            hour(1, 1, 20)
            plan(0) = NO
            plan(9) = NO
            """);
        EDGES.edge(21, "then NEED is taken; what the TANK does not hold is lost", """
            rule(5, 10)
            hour(0, 1, 20)
            plan(10) = 0          # what is given to a full TANK serves that HOUR's NEED
            plan(9) = NO
            rule(5, 0)
            hour(0, 1, 10)
            plan(0) = 0
            hour(0, 1, 11)
            plan(0) = NO
            """);
        EDGES.edge(21, "giving OUT (0 .. 200; 10 at first)", """
            rule(5, 200)
            rule(6, 200)
            hour(0, 1, 400)
            plan(200) = 0
            plan(199) = NO
            hour(0, 1, 401)
            plan(200) = NO
            hour(0, 1, 200)
            hour(1, 1, 400)
            plan(200) = 0
            plan(199) = NO
            rule(6, 0)
            hour(0, 1, 0)
            hour(1, 1, 5)
            plan(5) = 0
            plan(4) = NO
            """);
    }

    private static void runs() {
        EDGES.range(22, "begins with a content (0 .. what the TANK holds)", "runs(?)", 0, 150);
        EDGES.edge(22, "HOURS in which it runs, as bits.", """
            runs(0) = 0           # nothing is needed
            hour(0, 1, 10)
            runs(0) = 1
            runs(10) = 0
            hour(0, 1, 0)
            hour(11, 1, 10)
            runs(0) = 2048
            runs(9) = 2048
            runs(10) = 0
            hour(11, 1, 110)
            runs(0) = 4094
            rule(5, 200)
            hour(11, 1, 120)
            runs(0) = 4095
            """);
        EDGES.edge(22, "BAD; NO.", """
            hour(11, 1, 121)
            rule(5, 200)
            runs(0) = NO
            runs(1) = 4095
            runs(201) = BAD       # BAD stands first
            runs(-1) = BAD
            """);
        EDGES.edge(22, "of several the first: that which does not run at the first HOUR at which they differ", forEveryHour("hour(?, 0, 5)") + """
            hour(2, 1, 10)
            runs(0) = 4           # 1 and 2 are as cheap
            hour(2, 1, 20)
            runs(0) = 6           # as 3 and 5 are
            hour(2, 1, 30)
            runs(0) = 7
            hour(2, 1, 10)
            hour(2, 0, 6)
            runs(0) = 2
            hour(1, 0, 6)
            runs(0) = 1           # the cheapest first of all
            """);
        EDGES.edge(22, "that which does not run at the first HOUR", """
            hour(5, 1, 15)
            runs(0) = 48          # HOURS that cost nothing run only if they must
            runs(5) = 32
            runs(15) = 0
            hour(4, 0, 1)
            runs(0) = 40
            """);
    }

    private static void tank() {
        EDGES.range(23, "begins with a content (0 .. what the TANK holds)", "tank(?, 0)", 0, 150);
        EDGES.range(23, "HOURS 0 .. 11", "tank(0, ?)", 0, 11);
        EDGES.edge(23, "What the TANK holds behind an HOUR by THE PLAN.", """
            tank(0, 0) = 0
            tank(100, 0) = 100
            tank(100, 11) = 100
            hour(1, 1, 4)
            tank(0, 0) = 0
            tank(0, 1) = 6        # 10 given, 4 taken
            tank(0, 11) = 6
            tank(4, 0) = 4
            tank(4, 1) = 0
            hour(0, 1, 10)
            tank(0, 0) = 0
            """);
        EDGES.edge(23, "what the TANK does not hold is lost", """
            hour(0, 1, 1)
            rule(5, 10)
            tank(0, 0) = 9
            rule(5, 9)
            tank(0, 0) = 9
            rule(5, 8)
            tank(0, 0) = 8
            rule(5, 0)
            tank(0, 0) = 0
            rule(5, 200)
            rule(6, 200)
            tank(0, 0) = 199
            """);
        EDGES.edge(23, "what the TANK does not hold is lost", """
            rule(5, 10)
            hour(1, 1, 20)
            tank(10, 0) = 10
            tank(10, 1) = 0
            tank(5, 0) = 10       # 5 and 10 given are 15
            tank(5, 1) = 0
            """);
        EDGES.edge(23, "BAD; NO.", """
            hour(11, 1, 999)
            tank(0, 0) = NO       # though its HOUR is long before
            tank(100, 11) = NO
            tank(101, 0) = BAD    # BAD stands first
            tank(-1, 0) = BAD
            tank(0, 12) = BAD
            tank(0, -1) = BAD
            """);
    }

    public static void main(String[] args) {
        hour();
        lay();
        plan();
        planTank();
        runs();
        tank();
        EDGES.end();
    }
}
