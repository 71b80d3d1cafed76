/** Promises 15 to 18, days and arrays: each sentence of the document that names a boundary case, by a run of its own. */
public final class DayEdgesTest {
    private static final Edges EDGES = new Edges();
    private static final String SIXTEEN_TIMES_SIXTY = "days(60)\n".repeat(16);

    /** One skin: at pressure 100 it lets 40 through, and FOUL is all of that. */
    private static final String ONE_SKIN = """
        length(1)
        rule(3, 1)
        feed(1000, 0, 100)
        """;

    private static void days() {
        EDGES.range(15, "n (1 .. 60) DAYS go", "days(?)", 1, 60);
        EDGES.edge(15, "n (1 .. 60) DAYS go: how many there were.", """
            days(0) = BAD
            days(60) = 60
            days(61) = BAD
            days(1) = 61
            count(2) = 61
            """);
        EDGES.edge(15, "(At most 1000 in all.)", SIXTEEN_TIMES_SIXTY + """
            count(2) = 960
            days(41) = BAD        # not even a part of them
            count(2) = 960
            days(40) = 1000
            days(1) = BAD
            days(60) = BAD
            count(2) = 1000
            """);
        EDGES.edge(15, "(At most 1000 in all.)", SIXTEEN_TIMES_SIXTY + """
            days(39) = 999
            days(2) = BAD
            days(1) = 1000
            days(1) = BAD
            """);
        EDGES.edge(15, "of all SKINS in VESSELS that there are", ONE_SKIN + """
            stage(0, 2)
            stage(2, 1)
            days(1)
            told(0, 1) = 40
            told(10, 1) = 40
            told(1, 1) = 0
            told(20, 1) = 0
            told(100, 1) = 0
            told(200, 1) = 0      # a STAGE behind none
            stage(0, 1)
            rule(4, 1)
            feed(1000, 0, 0)
            days(1)
            told(0, 1) = 20
            told(10, 1) = 40      # nor is it washed
            """);
    }

    private static void fouling() {
        EDGES.edge(15, "FOUL becomes what each lets through / RATE (1 .. 1000; 100 at first) more", ONE_SKIN + """
            rule(3, 41)
            days(1)
            told(0, 1) = 0
            rule(3, 40)
            days(1)
            told(0, 1) = 1
            rule(3, 21)
            days(1)
            told(0, 1) = 2
            rule(3, 20)
            days(1)
            told(0, 1) = 4
            rule(3, 1)
            days(1)
            told(0, 1) = 43       # PASS is 39 by then
            """);
        EDGES.edge(15, "RATE (1 .. 1000; 100 at first)", """
            length(1)
            fresh(0, 2)
            feed(20000, 0, 900)
            rule(3, 1000)
            days(60)
            told(0, 1) = 0        # 540 is the most that a SKIN can let through
            rule(3, 541)
            days(1)
            told(0, 1) = 0
            rule(3, 540)
            days(1)
            told(0, 1) = 1
            """);
        EDGES.edge(15, "90 at most", ONE_SKIN + """
            feed(1000, 0, 224)
            days(1)
            told(0, 1) = 89
            days(1)
            told(0, 1) = 90
            days(60)
            told(0, 1) = 90
            fresh(0, 0) = 90
            feed(1000, 0, 225)
            days(1)
            told(0, 1) = 90
            fresh(0, 0) = 90
            feed(1000, 0, 228)
            days(1)
            told(0, 1) = 90       # of 91
            fresh(0, 2) = 90
            feed(1000, 0, 900)
            days(1)
            told(0, 1) = 90       # of 540
            """);
        EDGES.edge(15, "(all at once, by that day's flows)", ONE_SKIN + """
            length(2)
            feed(50, 0, 100)      # 40 go, then the 10 that are left
            days(1)
            told(0, 1) = 40
            told(1, 1) = 10
            days(1)               # PASS is 24 and 36: 24 go, then the 26 that are left
            told(0, 1) = 64
            told(1, 1) = 36
            """);
        EDGES.edge(15, "by that day's flows", ONE_SKIN + """
            days(5) = 5           # 40, 24, 15, 9 and 5 go through
            told(0, 1) = 90
            fresh(0, 0)
            days(4) = 9
            told(0, 1) = 88
            """);
    }

    private static void washing() {
        EDGES.edge(15, "(0 .. 30; 0, at first: never)", ONE_SKIN + """
            days(1)
            feed(1000, 0, 0)
            days(59)
            told(0, 1) = 40
            rule(4, 30)
            rule(4, 0)
            days(60)
            told(0, 1) = 40
            """);
        EDGES.edge(15, "if its number (1 of the first DAY) is a multiple of WASHING", ONE_SKIN + """
            rule(4, 1)
            days(1)
            told(0, 1) = 20
            """);
        EDGES.edge(15, "is a multiple of WASHING", ONE_SKIN + """
            rule(4, 2)
            days(1)
            told(0, 1) = 40
            days(1)
            told(0, 1) = 32       # 24 more are 64
            """);
        EDGES.edge(15, "WASHING (0 .. 30", ONE_SKIN + """
            days(1)
            feed(1000, 0, 0)
            rule(4, 30)
            days(28) = 29
            told(0, 1) = 40
            days(1) = 30
            told(0, 1) = 20
            days(29) = 59
            told(0, 1) = 20
            days(1) = 60
            told(0, 1) = 10
            days(31) = 91
            told(0, 1) = 5
            """);
        EDGES.edge(15, "if its number (1 of the first DAY)", ONE_SKIN + """
            days(1)
            feed(1000, 0, 0)
            days(4)
            rule(4, 3)            # told at DAY 5: the next are 6 and 9
            days(1) = 6
            told(0, 1) = 20
            days(2) = 8
            told(0, 1) = 20
            days(1) = 9
            told(0, 1) = 10
            """);
        EDGES.edge(15, "FOUL becomes FOUL / 2", ONE_SKIN + """
            feed(1000, 0, 300)
            rule(4, 1)
            days(1)
            told(0, 1) = 45       # 120 are 90 ahead of the washing
            feed(1000, 0, 0)
            days(1)
            told(0, 1) = 22
            days(1)
            told(0, 1) = 11
            days(1)
            told(0, 1) = 5
            days(2)
            told(0, 1) = 1
            days(1)
            told(0, 1) = 0
            days(1)
            told(0, 1) = 0
            """);
    }

    private static void foul() {
        EDGES.range(16, "(what 0), the greatest FOUL (1), the first SKIN that has it (2)", "foul(?)", 0, 2);
        EDGES.edge(16, "the first SKIN that has it (2)", """
            foul(0) = 0
            foul(1) = 0
            foul(2) = 0           # none is foul: all have the greatest
            stage(0, 2)
            length(1)
            rule(3, 1)
            feed(1000, 0, 100)
            days(1)
            foul(0) = 80
            foul(1) = 40
            foul(2) = 0           # both have it
            fresh(0, 0)
            foul(0) = 40
            foul(1) = 40
            foul(2) = 10
            """);
        EDGES.edge(16, "The sum of FOUL of all SKINS in VESSELS that there are (what 0)", """
            stage(0, 4)
            stage(1, 4)
            stage(2, 4)
            length(6)
            rule(3, 1)
            feed(20000, 0, 900)
            days(3)
            foul(0) = 6480        # 72 of 90
            foul(1) = 90
            foul(2) = 0
            length(5)
            foul(0) = 5400
            length(1)
            stage(1, 0)
            foul(0) = 360
            stage(0, 1)
            foul(0) = 90
            """);
        EDGES.edge(16, "of all SKINS in VESSELS that there are", ONE_SKIN + """
            days(1)
            change(0, 235)
            foul(0) = 0           # the foul one is not in the plant
            foul(1) = 0
            foul(2) = 0
            stage(0, 4)
            stage(1, 4)
            stage(2, 4)
            foul(1) = 0
            length(6)
            foul(0) = 40
            foul(1) = 40
            foul(2) = 235
            """);
    }

    private static void swap() {
        EDGES.edge(17, "none, if none makes it more", """
            swap() = NONE         # all alike
            length(1)
            fresh(0, 2)
            swap() = NONE         # one alone
            stage(0, 2)
            swap() = NONE         # beside one another: no more and no less
            length(2)
            feed(1000, 0, 100)
            swap() = NONE         # it would be less
            """);
        EDGES.edge(17, "that by which SWEET WATER becomes the most", """
            length(2)
            feed(1000, 0, 100)
            fresh(1, 2)
            sweet(0) = 98         # 40 and 58
            swap() = 1            # 60 and 39: one more
            change(0, 1)
            sweet(0) = 99
            swap() = NONE
            """);
        EDGES.edge(17, "becomes the most", """
            length(6)
            feed(1000, 0, 100)
            fresh(0, 3)
            fresh(1, 2)
            fresh(5, 2)
            sweet(0) = 243
            swap() = 5            # 4 more; with 0 and 1, which come first, 1 more
            """);
        EDGES.edge(17, "of several the first (by the lesser place, then the greater one", """
            length(2)
            stage(1, 1)
            feed(1000, 0, 70)
            fresh(0, 1)
            fresh(1, 3)
            sweet(0) = 85
            swap() = 101          # 0 and 101; 1 and 100, 1 and 101 make it 86 too
            """);
        EDGES.edge(17, "then the greater one", """
            length(1)
            stage(0, 1)
            stage(1, 2)
            feed(1000, 0, 100)
            fresh(100, 2)
            fresh(110, 2)
            swap() = 100          # with 110 it is as much
            """);
        EDGES.edge(17, "places by STAGES, VESSELS, SKINS", """
            stage(0, 2)
            length(2)
            feed(1000, 0, 100)
            fresh(11, 2)
            swap() = 11           # 0 and 11, not 10 and 11
            """);
    }

    private static void swapFar() {
        EDGES.edge(17, "1000 * the lesser SKIN and the other one", """
            stage(0, 4)
            stage(1, 4)
            stage(2, 4)
            length(6)
            feed(20000, 0, 100)
            fresh(0, 2)
            fresh(235, 2)
            swap() = 10235
            """);
        EDGES.edge(17, "1000 * the lesser SKIN and the other one", """
            stage(1, 1)
            stage(2, 1)
            length(6)
            feed(1000, 0, 100)
            fresh(0, 2)
            fresh(1, 2)
            fresh(2, 2)
            fresh(3, 2)
            fresh(4, 2)
            fresh(5, 2)
            fresh(200, 2)
            swap() = 100200
            """);
        EDGES.edge(17, "of all pairs of SKINS in VESSELS that there are", """
            length(1)
            feed(1000, 0, 100)
            fresh(1, 2)
            fresh(10, 2)
            fresh(100, 2)
            fresh(200, 2)
            stage(2, 1)
            swap() = NONE         # none of the LOOSE ones is in the plant
            stage(1, 1)
            swap() = 100          # with 200 it is as much
            """);
    }

    private static void swapOfFoul() {
        EDGES.edge(17, "they change their places, with KIND and FOUL", ONE_SKIN + """
            days(1)               # of one KIND, but PASS of the first is 24
            length(6)
            sweet(0) = 210
            swap() = 4            # 40 and 22, not 24 and 36: 2 more, with any other one at most
            """);
        EDGES.edge(17, "they change their places, with KIND and FOUL", """
            length(1)
            feed(20000, 0, 900)
            fresh(0, 2)
            rule(3, 10)
            days(1)               # 540: a LOOSE one, FOUL 54
            change(0, 1)
            rule(3, 12)
            days(1)               # 360: another one, FOUL 30
            told(0, 2) = 28
            told(1, 2) = 28       # they differ in LEAK alone
            length(2)
            feed(200, 20000, 600)
            sweet(0) = 152
            swap() = 1            # what leaks more, set ahead, leaves less salt to press against
            change(0, 1)
            sweet(0) = 154
            swap() = NONE
            """);
        EDGES.edge(17, "none, if none makes it more", """
            fresh(1, 2)
            feed(500, 36000, 400)
            sweet(0) = 36         # 16, 16 and 4
            swap() = NONE         # with 0 and 1 changed 24, 8 and 4, with 1 and 2 16, 10 and 10
            """);
    }

    private static void array() {
        EDGES.range(18, "THE ARRAY for WANT (0 .. 99999)", "array(?, 0)", 0, 99999);
        EDGES.range(18, "QUALITY (0 .. 60000)", "array(0, ?)", 0, 60000);
        EDGES.edge(18, "BAD; NO: there is none.", """
            feed(0, 0, 0)
            array(1, 60000) = NO
            array(-1, 60000) = BAD
            array(100000, 0) = BAD # BAD stands first
            array(99999, -1) = BAD
            array(99999, 60001) = BAD
            array(99999, 60000) = NO
            array(0, 0) = 100100  # nothing is wanted of nothing
            """);
        EDGES.edge(18, "SWEET WATER is WANT or more", """
            length(1)
            feed(1000, 0, 0)
            array(0, 0) = 100100
            array(40, 0) = 100100
            array(41, 0) = 100110
            array(79, 0) = 100110
            array(80, 0) = 100111
            array(468, 0) = 100444
            array(469, 0) = 200114
            array(1000, 0) = 300144 # 120, four times 119 and four times the 101 that are left
            array(1001, 0) = NO
            """);
        EDGES.edge(18, "PRESSURES 100, 200, .. 900", """
            length(1)
            feed(20000, 0, 0)
            array(0, 0) = 100100
            array(4308, 0) = 900444
            array(4309, 0) = NO
            """);
        EDGES.edge(18, "its GRAINS are at most QUALITY for each of it", """
            length(1)
            feed(100, 3000, 60)
            array(1, 30) = 100100 # 30 with each of it
            array(1, 29) = NO
            array(50, 35) = 100110
            array(50, 34) = 100200 # 1742 with 50 are more than 34 with each
            """);
        EDGES.edge(18, "QUALITY for each of it", """
            feed(1000, 60000, 0)
            array(0, 0) = 100100  # without SWEET WATER there are no GRAINS in it
            array(1, 599) = NO
            array(1, 60000) = 700100
            feed(1000, 0, 0)
            array(1, 0) = 100100
            """);
    }

    private static void arrayNumbers() {
        EDGES.edge(18, "of all numbers a (1 .. 4)", """
            length(1)
            feed(100, 0, 0)
            rule(1, 25)
            array(0, 0) = 100400  # 25 of 25 to each
            rule(1, 24)
            array(0, 0) = NO      # it would take five
            rule(1, 100)
            array(0, 0) = 100100
            """);
        EDGES.edge(18, "b (0 .. 4)", """
            length(1)
            fresh(0, 3)
            fresh(10, 3)
            fresh(20, 3)
            fresh(30, 3)
            feed(180, 0, 0)
            rule(1, 25)
            array(80, 0) = 100400
            array(180, 0) = 100440 # 20 of 45 from each, then 25 of 25
            rule(1, 24)
            array(180, 0) = NO    # it would take five
            """);
        EDGES.edge(18, "c (0 .. 4; 0, if b is 0)", """
            length(1)
            fresh(0, 3)
            fresh(10, 3)
            fresh(20, 3)
            fresh(30, 3)
            fresh(100, 3)
            fresh(110, 3)
            fresh(120, 3)
            fresh(130, 3)
            feed(260, 0, 0)
            rule(1, 26)
            array(260, 0) = 100444 # 20 of 65, 19 of 45, then 26 of 26
            rule(1, 25)
            array(260, 0) = NO    # it would take five
            """);
    }

    private static void arrayLimits() {
        EDGES.edge(18, "there is no FAILURE", """
            length(1)
            feed(100, 0, 0)
            rule(0, 21)
            array(79, 0) = 100110 # 40 and 39 go, 21 stay
            rule(0, 22)
            array(79, 0) = NO
            rule(0, 101)
            array(0, 0) = NO
            rule(0, 100)
            array(0, 0) = NO
            feed(100, 60000, 0)
            array(0, 0) = 100100
            """);
        EDGES.edge(18, "there is no FAILURE", """
            length(1)
            feed(1000, 0, 0)
            rule(1, 40)
            array(468, 0) = 100444
            array(469, 0) = NO
            rule(1, 39)
            array(0, 0) = NO
            """);
        EDGES.edge(18, "the one with the least POWER", """
            length(1)
            feed(1000, 0, 0)
            array(79, 0) = 100110
            rule(2, 100)
            array(79, 0) = 100200 # one STAGE leaves more pressure with BRINE
            """);
        EDGES.edge(18, "of several the first (by PRESSURE, a, b, c)", """
            length(1)
            rule(2, 100)
            feed(1300, 22000, 0)
            array(72, 60000) = 300300 # a power of 313; 400100 has it too
            array(0, 60000) = 100100  # nothing goes through at 100 and 200: as much power for every a
            """);
        EDGES.edge(18, "(by PRESSURE, a, b, c)", """
            length(1)
            feed(1000, 0, 0)
            array(118, 0) = 100112 # ahead of 120, 200 and 300
            array(193, 0) = 100113 # 40, 39 and three times 38
            array(194, 0) = 100114
            array(232, 0) = 100123
            """);
    }

    private static void arrayOfSkins() {
        EDGES.edge(18, "(all VESSELS having SKINS as they are)", """
            length(1)
            feed(1000, 0, 0)
            fresh(10, 2)
            fresh(100, 1)
            array(41, 0) = 100110
            array(69, 0) = 100110 # 40 and 29
            array(70, 0) = 100111
            fresh(100, 2)
            array(70, 0) = 100110
            rule(2, 100)
            array(100, 0) = 100200 # 40 and 60
            """);
        EDGES.edge(18, "(nothing becomes so)", """
            stage(0, 3)
            stage(2, 4)
            feed(1000, 0, 77)
            array(100, 0) = 100100
            count(0) = 3
            flow(0, 2) = 77
            brine(2) = 71
            """);
    }

    public static void main(String[] args) {
        days();
        fouling();
        washing();
        foul();
        swap();
        swapFar();
        swapOfFoul();
        array();
        arrayNumbers();
        arrayLimits();
        arrayOfSkins();
        EDGES.end();
    }
}
