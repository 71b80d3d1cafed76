/** Promises 9 to 14, flows: each sentence of the document that names a boundary case, by a run of its own. */
public final class FlowEdgesTest {
    private static final Edges EDGES = new Edges();

    private static void whichSkins() {
        EDGES.everySkin(9, "flow(?, 0)");
        EDGES.range(9, "what 0 WATER that it gets, 1 GRAINS, 2 pressure, 3 WATER that it lets through, 4 GRAINS of that", "flow(0, ?)", 0, 4);
        EDGES.edge(9, "NO: there is no such now.", """
            flow(2, 0) = 977
            flow(3, 0) = NO
            flow(10, 0) = NO
            flow(100, 0) = NO
            flow(3, 5) = BAD      # BAD stands first
            flow(10, -1) = BAD
            flow(6, 0) = BAD
            length(4)
            flow(3, 0) = 967
            flow(4, 0) = NO
            stage(0, 4)
            flow(33, 0) = 219     # of 250 to each VESSEL 12, 10 and 9 have gone
            flow(34, 0) = NO
            stage(0, 3)
            flow(23, 2) = 54
            flow(33, 2) = NO
            """);
        EDGES.edge(9, "Of a SKIN in a VESSEL that there is", """
            stage(0, 4)
            stage(1, 4)
            stage(2, 4)
            length(6)
            feed(20000, 0, 100)
            flow(235, 0) = 4435   # 5000 less 226, 197 and 142
            flow(235, 2) = 66
            flow(235, 3) = 26
            flow(235, 4) = 0
            """);
    }

    private static void salt() {
        EDGES.edge(9, "SALT s is g / w (0, if w is 0)", """
            length(2)
            feed(5, 1000, 900)
            flow(0, 3) = 5
            flow(0, 4) = 50
            flow(1, 0) = 0
            flow(1, 1) = 4950
            flow(1, 2) = 898
            flow(1, 3) = 0
            flow(1, 4) = 0
            feed(0, 60000, 900)
            flow(0, 1) = 0
            flow(0, 3) = 0
            flow(0, 4) = 0
            """);
        EDGES.edge(9, "All numbers are whole; / cuts", """
            length(2)
            feed(1000, 99, 24)
            flow(1, 0) = 991
            flow(1, 1) = 99000
            flow(1, 4) = 0        # SALT is 99.9, cut: 99 lets no grain through
            feed(1000, 99, 25)
            flow(1, 0) = 990
            flow(1, 3) = 8
            flow(1, 4) = 8        # SALT is 100
            """);
    }

    private static void push() {
        EDGES.edge(9, "PUSH is p less s / 100 (0 at least)", """
            length(1)
            fresh(0, 2)
            feed(1000, 1000, 12)
            flow(0, 3) = 1        # PUSH 2
            flow(0, 4) = 25
            feed(1000, 1099, 12)
            flow(0, 3) = 1        # 10.99 is cut
            feed(1000, 1100, 12)
            flow(0, 3) = 0        # PUSH 1
            feed(1000, 1000, 10)
            flow(0, 3) = 0        # PUSH 0
            feed(1000, 1000, 8)
            flow(0, 3) = 0        # not less than none
            flow(0, 4) = 0
            feed(1000, 60000, 0)
            flow(0, 3) = 0
            flow(0, 4) = 0
            feed(1000, 60000, 602)
            flow(0, 3) = 1
            flow(0, 4) = 1500
            """);
        EDGES.edge(9, "it lets through t = PUSH times PASS / 100, but w at most", """
            length(1)
            feed(41, 0, 100)
            flow(0, 3) = 40
            feed(40, 0, 100)
            flow(0, 3) = 40
            feed(39, 0, 100)
            flow(0, 3) = 39
            feed(1, 0, 900)
            flow(0, 3) = 1
            feed(0, 0, 900)
            flow(0, 3) = 0
            feed(1000, 0, 102)
            flow(0, 3) = 40       # 40.8 is cut
            feed(1000, 0, 103)
            flow(0, 3) = 41
            feed(1000, 0, 2)
            flow(0, 3) = 0
            feed(1000, 0, 3)
            flow(0, 3) = 1
            """);
    }

    /** A skin of a kind at a PUSH of 100 lets t through: below that salt none of it, at it one grain with each. */
    private static void leak(int kind, int t, int salt) {
        EDGES.edge(9, "with t times (s times LEAK / 1000) GRAINS",
            "length(1)\n"
            + "fresh(0, " + kind + ")\n"
            + "feed(1000, " + (salt - 1) + ", " + (100 + (salt - 1) / 100) + ")\n"
            + "flow(0, 3) = " + t + "\n"
            + "flow(0, 4) = 0\n"
            + "feed(1000, " + salt + ", " + (100 + salt / 100) + ")\n"
            + "flow(0, 3) = " + t + "\n"
            + "flow(0, 4) = " + t + "\n"
            + "feed(1000, " + (2 * salt - 1) + ", " + (100 + (2 * salt - 1) / 100) + ")\n"
            + "flow(0, 4) = " + t + "\n"
            + "feed(1000, " + 2 * salt + ", " + (100 + 2 * salt / 100) + ")\n"
            + "flow(0, 4) = " + 2 * t + "\n");
    }

    private static void nextSkin() {
        leak(0, 40, 100);
        leak(1, 30, 200);
        leak(2, 60, 40);
        leak(3, 20, 500);
        EDGES.edge(9, "what stays, w less t with all other GRAINS, comes to the next SKIN", """
            feed(41, 1000, 110)
            flow(0, 3) = 40
            flow(0, 4) = 400
            flow(1, 0) = 1
            flow(1, 1) = 40600    # nearly all the salt in the last of the water
            flow(1, 3) = 0
            flow(2, 0) = 1
            flow(2, 1) = 40600
            """);
        EDGES.edge(9, "at a pressure 2 less (0 at least)", """
            feed(1000, 0, 5)
            flow(2, 2) = 1
            feed(1000, 0, 4)
            flow(0, 2) = 4
            flow(1, 2) = 2
            flow(2, 2) = 0
            feed(1000, 0, 3)
            flow(1, 2) = 1
            flow(2, 2) = 0
            feed(1000, 0, 1)
            flow(0, 2) = 1
            flow(1, 2) = 0
            flow(2, 2) = 0
            feed(1000, 0, 0)
            flow(0, 2) = 0
            flow(1, 2) = 0
            length(6)
            feed(1000, 0, 11)
            flow(5, 2) = 1
            feed(1000, 0, 10)
            flow(5, 2) = 0
            feed(1000, 0, 9)
            flow(5, 2) = 0
            """);
    }

    /** What four vessels of stage 0 get, of water that nothing is pressed out of. */
    private static String shares(int water, int salt, int what, int... due) {
        StringBuilder lines = new StringBuilder("feed(" + water + ", " + salt + ", 0)\n");
        for (int vessel = 0; vessel < due.length; vessel++) {
            lines.append("flow(" + 10 * vessel + ", " + what + ") = " + due[vessel] + "\n");
        }
        return lines.toString();
    }

    private static void vessels() {
        EDGES.edge(9, "its VESSELS get WATER / their number each, the first ones one more each, for what is left over", "stage(0, 4)\n"
            + shares(0, 0, 0, 0, 0, 0, 0)
            + shares(1, 0, 0, 1, 0, 0, 0)
            + shares(3, 0, 0, 1, 1, 1, 0)
            + shares(4, 0, 0, 1, 1, 1, 1)
            + shares(5, 0, 0, 2, 1, 1, 1)
            + shares(7, 0, 0, 2, 2, 2, 1)
            + shares(19999, 0, 0, 5000, 5000, 5000, 4999)
            + shares(20000, 0, 0, 5000, 5000, 5000, 5000)
            + "stage(0, 3)\n"
            + shares(5, 0, 0, 2, 2, 1)
            + "stage(0, 1)\n"
            + shares(5, 0, 0, 5));
        EDGES.edge(9, "GRAINS of a VESSEL: its WATER times (all GRAINS / all WATER; 0, if there is no WATER)", "stage(0, 4)\n"
            + shares(7, 1000, 1, 2000, 2000, 2000, 1000)
            + shares(3, 1000, 1, 1000, 1000, 1000, 0)
            + shares(0, 1000, 1, 0, 0, 0, 0)
            + shares(20000, 60000, 1, 300000000, 300000000, 300000000, 300000000));
        EDGES.edge(9, "the first VESSEL what is left over besides", """
            length(1)
            stage(1, 4)
            feed(100, 2000, 53)   # 13 go through: 199740 stay in 87, 2295 in each and 75 over
            flow(100, 0) = 22
            flow(110, 0) = 22
            flow(120, 0) = 22
            flow(130, 0) = 21
            flow(100, 1) = 50565
            flow(110, 1) = 50490
            flow(120, 1) = 50490
            flow(130, 1) = 48195
            """);
        EDGES.edge(9, "0, if there is no WATER", """
            length(1)
            stage(1, 4)
            feed(10, 1000, 900)   # all of it goes through, with 100
            flow(100, 0) = 0
            flow(110, 0) = 0
            flow(100, 1) = 9900
            flow(110, 1) = 0
            flow(130, 1) = 0
            flow(100, 3) = 0
            flow(100, 4) = 0
            """);
    }

    private static void nextStage() {
        EDGES.edge(9, "What stays at the end of all VESSELS of a STAGE comes to the next one, together", """
            stage(0, 4)
            stage(1, 1)
            feed(7, 1000, 10)
            flow(100, 0) = 7
            flow(100, 1) = 7000
            feed(7, 1000, 900)    # nothing stays but the salt
            flow(100, 0) = 0
            flow(100, 1) = 6930
            """);
        EDGES.edge(9, "at a pressure 2 * LONG less than it began with (0 at least)", """
            stage(1, 1)
            stage(2, 1)
            length(6)
            feed(1000, 0, 25)
            flow(100, 2) = 13
            flow(200, 2) = 1
            brine(2) = 0
            feed(1000, 0, 24)
            flow(100, 2) = 12
            flow(200, 2) = 0
            feed(1000, 0, 13)
            flow(100, 2) = 1
            flow(200, 2) = 0
            feed(1000, 0, 12)
            flow(100, 2) = 0
            feed(1000, 0, 11)
            flow(100, 2) = 0
            flow(200, 2) = 0
            length(1)
            feed(1000, 0, 3)
            flow(100, 2) = 1
            flow(200, 2) = 0
            """);
    }

    private static void sweet() {
        EDGES.range(10, "what 0 WATER, 1 GRAINS, 2 SALT of it", "sweet(?)", 0, 2);
        EDGES.edge(10, "SALT of it (GRAINS / WATER; 0 without WATER)", """
            feed(0, 60000, 900)
            sweet(0) = 0
            sweet(1) = 0
            sweet(2) = 0
            feed(100, 60000, 600) # nothing can be pressed out
            sweet(0) = 0
            sweet(1) = 0
            sweet(2) = 0
            feed(100, 60000, 603)
            sweet(0) = 1
            sweet(1) = 600
            sweet(2) = 600
            fresh(0, 3)
            feed(100, 10000, 400)
            sweet(0) = 100
            sweet(1) = 11160      # 60 with 20 each, 40 with 249 each
            sweet(2) = 111
            """);
        EDGES.edge(10, "all that is let through is SWEET", """
            feed(7, 1000, 900)
            sweet(0) = 7          # all of it
            sweet(1) = 70
            feed(100, 2000, 53)
            length(1)
            sweet(0) = 13
            sweet(1) = 260
            stage(1, 4)
            sweet(0) = 57         # 11 more from each VESSEL
            sweet(1) = 1228
            stage(1, 0)
            stage(2, 4)
            sweet(0) = 13         # a STAGE behind none gives none
            """);
    }

    private static void brine() {
        EDGES.range(11, "what 0 WATER, 1 GRAINS, 2 the pressure at which it leaves", "brine(?)", 0, 2);
        EDGES.edge(11, "What stays behind the last STAGE is BRINE", """
            feed(7, 1000, 900)
            brine(0) = 0          # nothing but salt stays
            brine(1) = 6930
            brine(2) = 894
            feed(100, 60000, 600)
            brine(0) = 100        # all stays
            brine(1) = 6000000
            feed(0, 60000, 600)
            brine(0) = 0
            brine(1) = 0
            brine(2) = 594
            stage(2, 4)
            brine(2) = 594        # a STAGE behind none is not the last
            stage(1, 4)
            brine(2) = 582
            """);
        EDGES.edge(11, "2 * LONG less than it began with (0 at least)", """
            feed(1000, 0, 7)
            brine(2) = 1
            feed(1000, 0, 6)
            brine(2) = 0
            feed(1000, 0, 5)
            brine(2) = 0
            feed(1000, 0, 0)
            brine(2) = 0
            stage(1, 1)
            feed(1000, 0, 13)
            brine(2) = 1
            feed(1000, 0, 11)
            brine(2) = 0
            """);
        EDGES.edge(11, "water and salt balanced to the last grain at each skin", """
            brine(0) = 967
            brine(1) = 2999010
            sweet(0) = 33
            sweet(1) = 990
            stage(1, 4)
            length(1)
            feed(100, 2000, 53)
            brine(0) = 43
            brine(1) = 198772
            sweet(0) = 57
            sweet(1) = 1228
            """);
    }

    private static void power() {
        EDGES.edge(12, "PRESSURE times WATER of the FEED / 100", """
            feed(99, 0, 1)
            power() = 0
            feed(100, 0, 1)
            power() = 1
            feed(199, 0, 1)
            power() = 1
            feed(200, 0, 1)
            power() = 2
            feed(0, 0, 900)
            power() = 0
            feed(20000, 0, 0)
            power() = 0
            feed(20000, 0, 900)
            power() = 180000
            """);
        EDGES.edge(12, "less GIVEN BACK hundredths (0 .. 100; 0 at first) of (the pressure at which BRINE leaves times WATER of BRINE / 100), cut", """
            length(1)
            feed(100, 60000, 102)
            power() = 102
            rule(2, 1)
            power() = 101
            rule(2, 100)
            power() = 2
            rule(2, 1)
            feed(99, 60000, 102)
            power() = 100         # 99 come with BRINE: a hundredth of that is cut
            rule(2, 99)
            feed(199, 60000, 3)
            power() = 5           # 1.99 is cut, then 0.99
            rule(2, 100)
            power() = 4
            """);
        EDGES.edge(12, "the pressure at which BRINE leaves times WATER of BRINE", """
            rule(2, 100)
            feed(7, 1000, 900)
            power() = 63          # no BRINE
            feed(100, 60000, 6)
            power() = 6           # no pressure left
            feed(100, 60000, 7)
            power() = 6
            """);
    }

    private static void failure() {
        EDGES.edge(13, "at which what stays is below LEAST (1)", """
            length(1)
            feed(1000, 0, 100)    # 40 go, 960 stay
            rule(0, 960)
            failure() = NONE
            rule(0, 961)
            failure() = 1
            rule(0, 9999)
            feed(10039, 0, 100)
            failure() = NONE
            feed(10038, 0, 100)
            failure() = 1
            """);
        EDGES.edge(13, "LEAST WATER that must stay behind each SKIN", """
            feed(40, 0, 100)
            failure() = NONE      # nothing need stay
            feed(0, 0, 100)
            failure() = NONE
            rule(0, 1)
            failure() = 1
            feed(41, 0, 100)
            failure() = 11        # 1 stays, then none
            """);
        EDGES.edge(13, "what it lets through is above MOST (2)", """
            length(1)
            feed(1000, 0, 100)
            rule(1, 40)
            failure() = NONE
            rule(1, 39)
            failure() = 2
            rule(1, 0)
            failure() = 2
            feed(1000, 0, 2)
            failure() = NONE      # nothing goes
            feed(1000, 0, 3)
            failure() = 2
            """);
        EDGES.edge(13, "of both 1", """
            length(1)
            feed(1000, 0, 100)
            rule(0, 961)
            rule(1, 39)
            failure() = 1
            rule(0, 960)
            failure() = 2
            """);
    }

    private static void firstFailure() {
        EDGES.edge(13, "the first SKIN (by STAGES, VESSELS, then SKINS)", """
            stage(0, 2)
            stage(1, 1)
            feed(1000, 0, 100)
            rule(1, 40)           # only a LOOSE one lets more through
            fresh(2, 2)
            fresh(10, 2)
            failure() = 22
            fresh(2, 0)
            failure() = 102
            fresh(10, 0)
            fresh(12, 2)
            fresh(100, 2)
            failure() = 122
            fresh(12, 0)
            failure() = 1002
            fresh(100, 0)
            failure() = NONE
            """);
        EDGES.edge(13, "THE FAILURE: the first SKIN", """
            length(2)
            feed(1000, 0, 100)    # 960, then 921 stay
            rule(0, 922)
            failure() = 11
            rule(1, 39)
            failure() = 2         # an earlier one, though by the other limit
            """);
        EDGES.edge(13, "10 * the SKIN and the limit; NONE", """
            stage(0, 4)
            stage(1, 4)
            stage(2, 4)
            length(6)
            fresh(235, 2)
            feed(20000, 0, 100)   # of 4435 the last SKIN lets 39 through, the others 26
            rule(0, 4396)
            failure() = NONE
            rule(0, 4397)
            failure() = 2351
            """);
        EDGES.edge(13, "A STAGE with 0 VESSELS is none, nor are those behind it.", """
            length(1)
            feed(1000, 0, 100)
            rule(1, 40)
            fresh(1, 2)
            fresh(10, 2)
            fresh(100, 2)
            fresh(200, 2)
            stage(2, 1)
            failure() = NONE      # none of the LOOSE ones is in the plant
            stage(1, 1)
            failure() = 1002
            """);
    }

    private static void rule() {
        EDGES.range(14, "0 LEAST, 1 MOST, 2 GIVEN BACK, 3 RATE, 4 WASHING, 5 what the TANK holds, 6 OUT", "rule(?, 1)", 0, 6);
        EDGES.range(14, "LEAST WATER that must stay behind each SKIN (0 .. 9999; 0 at first)", "rule(0, ?)", 0, 9999);
        EDGES.range(14, "MOST that a SKIN may let through (0 .. 9999; 9999 at first)", "rule(1, ?)", 0, 9999);
        EDGES.range(14, "GIVEN BACK hundredths (0 .. 100; 0 at first)", "rule(2, ?)", 0, 100);
        EDGES.range(14, "RATE (1 .. 1000; 100 at first)", "rule(3, ?)", 1, 1000);
        EDGES.range(14, "WASHING (0 .. 30; 0, at first: never)", "rule(4, ?)", 0, 30);
        EDGES.range(14, "A TANK holds 0 .. 200 (100 at first)", "rule(5, ?)", 0, 200);
        EDGES.range(14, "giving OUT (0 .. 200; 10 at first)", "rule(6, ?)", 0, 200);
        EDGES.edge(14, "A rule becomes v: what it was", """
            rule(0, 9999) = 0
            rule(0, 10000) = BAD
            rule(0, 0) = 9999
            rule(1, 0) = 9999
            rule(1, 9999) = 0
            rule(2, 100) = 0
            rule(2, 101) = BAD
            rule(2, 0) = 100
            rule(3, 1) = 100
            rule(3, 0) = BAD
            rule(3, 1000) = 1
            rule(3, 1001) = BAD
            rule(3, 1) = 1000
            rule(4, 30) = 0
            rule(4, 31) = BAD
            rule(4, 0) = 30
            rule(5, 200) = 100
            rule(5, 201) = BAD
            rule(5, 0) = 200
            rule(6, 200) = 10
            rule(6, 201) = BAD
            rule(6, 0) = 200
            rule(6, 0) = 0
            """);
    }

    public static void main(String[] args) {
        whichSkins();
        salt();
        push();
        nextSkin();
        vessels();
        nextStage();
        sweet();
        brine();
        power();
        failure();
        firstFailure();
        rule();
        EDGES.end();
    }
}
