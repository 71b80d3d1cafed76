/** Each promise of the document by numbers worked out by hand: ordinary inputs, the edges, and wrong inputs. */
public final class PromisesTest {
    private static final long BAD = SaltPlant.BAD;
    private static final long NO = SaltPlant.NO;
    private static final long NONE = SaltPlant.NONE;
    private static final long NOTHING = SaltPlant.NOTHING;
    private static final long INDEX = SaltPlant.INDEX;
    private static final long SIZE = SaltPlant.SIZE;
    private static final int LOW = Integer.MIN_VALUE;
    private static final int HIGH = Integer.MAX_VALUE;
    private static final int[] NO_SKINS = {LOW, -1, -10, 6, 9, 40, 45, 99, 106, 140, 236, 240, 300, 1000, HIGH};

    private static final Check CHECK = new Check();
    private static int promise = 0;

    private static void due(String call, long got, long want) {
        CHECK.due("promise " + promise + ": " + call, got, want);
    }

    private static void constants() {
        due("BAD", SaltPlant.BAD, -9000000000000000001L);
        due("NO", SaltPlant.NO, -9000000000000000002L);
        due("FULL", SaltPlant.FULL, -9000000000000000003L);
        due("SPENT", SaltPlant.SPENT, -9000000000000000004L);
        due("NONE", SaltPlant.NONE, -9000000000000000005L);
        due("NOTHING", SaltPlant.NOTHING, -9000000000000000011L);
        due("INDEX", SaltPlant.INDEX, -9000000000000000013L);
        due("SIZE", SaltPlant.SIZE, -9000000000000000014L);
    }

    /** One vessel, then four: 87 of water with 199740 grains come to 22, 22, 22 and 21. */
    private static SaltPlant oneThenFour() {
        SaltPlant x = new SaltPlant();
        x.length(1);
        x.stage(1, 4);
        x.feed(100, 2000, 53);
        return x;
    }

    /** Skins of one to a vessel and water without salt: a skin lets 40 (LOOSE 60) hundredths of its pressure through. */
    private static SaltPlant saltless(int water) {
        SaltPlant x = new SaltPlant();
        x.length(1);
        x.feed(water, 0, 100);
        return x;
    }

    private static void newObject() {
        promise = 1;
        SaltPlant x = new SaltPlant();
        due("count(0)", x.count(0), 1);
        due("count(1)", x.count(1), 3);
        due("count(2)", x.count(2), 0);
        due("count(3)", x.count(3), 0);
        due("flow(0, 0)", x.flow(0, 0), 1000);
        due("flow(0, 1)", x.flow(0, 1), 3000000);
        due("flow(0, 2)", x.flow(0, 2), 60);
        due("foul(0)", x.foul(0), 0);
        due("told(235, 0)", x.told(235, 0), 0);
        due("told(235, 1)", x.told(235, 1), 0);
        long[] first = {0, 9999, 0, 100, 0, 100, 10};
        for (int i = 0; i < first.length; i++) {
            due("rule(" + i + ", 1)", x.rule(i, 1), first[i]);
        }
        due("stage(0, 1)", x.stage(0, 1), 1);
        due("stage(1, 0)", x.stage(1, 0), 0);
        due("stage(2, 0)", x.stage(2, 0), 0);
        due("length(3)", x.length(3), 3);
        for (int i = 0; i < 12; i++) {
            due("hour(" + i + ", 0, 0)", x.hour(i, 0, 0), 0);
            due("hour(" + i + ", 1, 0)", x.hour(i, 1, 0), 0);
        }
        due("mark(0, 0, 0)", x.mark(0, 0, 0), NOTHING);
        due("mark(1, 0, 0)", x.mark(1, 0, 0), NOTHING);
    }

    private static void stages() {
        promise = 2;
        SaltPlant x = new SaltPlant();
        due("stage(2, 4)", x.stage(2, 4), 0);
        due("count(0)", x.count(0), 1);
        due("stage(1, 2)", x.stage(1, 2), 0);
        due("count(0)", x.count(0), 7);
        due("stage(0, 4)", x.stage(0, 4), 1);
        due("count(0)", x.count(0), 10);
        due("fresh(130, 2)", x.fresh(130, 2), 0);
        due("stage(1, 0)", x.stage(1, 0), 2);
        due("count(0)", x.count(0), 4);
        due("told(130, 0)", x.told(130, 0), 2);
        due("stage(2, 4)", x.stage(2, 4), 4);
        int[][] wrong = {{-1, 1}, {3, 1}, {LOW, 1}, {HIGH, 1}, {0, 0}, {0, 5}, {0, -1}, {1, -1}, {1, 5}, {2, LOW}, {2, HIGH}};
        for (int[] w : wrong) {
            due("stage(" + w[0] + ", " + w[1] + ")", x.stage(w[0], w[1]), BAD);
        }
        due("stage(0, 1)", x.stage(0, 1), 4);
        due("stage(1, 4)", x.stage(1, 4), 0);
        due("count(0)", x.count(0), 9);
    }

    private static void lengths() {
        promise = 3;
        SaltPlant x = new SaltPlant();
        due("length(6)", x.length(6), 3);
        due("count(1)", x.count(1), 6);
        due("flow(5, 2)", x.flow(5, 2), 50);
        due("fresh(5, 1)", x.fresh(5, 1), 0);
        due("length(1)", x.length(1), 6);
        due("flow(1, 0)", x.flow(1, 0), NO);
        due("told(5, 0)", x.told(5, 0), 1);
        for (int n : new int[] {0, 7, -1, LOW, HIGH}) {
            due("length(" + n + ")", x.length(n), BAD);
        }
        due("length(2)", x.length(2), 1);
    }

    private static void freshSkins() {
        promise = 4;
        SaltPlant x = new SaltPlant();
        x.feed(20000, 0, 900);
        x.rule(3, 10);
        x.days(1);
        // 900 * 40 / 100 = 360, and 360 / 10
        due("told(0, 1)", x.told(0, 1), 36);
        due("fresh(0, 3)", x.fresh(0, 3), 36);
        due("told(0, 0)", x.told(0, 0), 3);
        due("told(0, 1)", x.told(0, 1), 0);
        due("fresh(0, 0)", x.fresh(0, 0), 0);
        due("fresh(235, 2)", x.fresh(235, 2), 0);
        due("told(235, 0)", x.told(235, 0), 2);
        due("told(234, 0)", x.told(234, 0), 0);
        for (int skin : NO_SKINS) {
            due("fresh(" + skin + ", 1)", x.fresh(skin, 1), BAD);
        }
        for (int kind : new int[] {-1, 4, LOW, HIGH}) {
            due("fresh(1, " + kind + ")", x.fresh(1, kind), BAD);
        }
        due("told(1, 1)", x.told(1, 1), 35);
        due("told(1, 0)", x.told(1, 0), 0);
    }

    private static void toldOfSkins() {
        promise = 5;
        SaltPlant x = new SaltPlant();
        long[] pass = {40, 30, 60, 20};
        long[] leak = {10, 5, 25, 2};
        for (int kind = 0; kind < 4; kind++) {
            x.fresh(kind, kind);
            due("told(" + kind + ", 0)", x.told(kind, 0), kind);
            due("told(" + kind + ", 1)", x.told(kind, 1), 0);
            due("told(" + kind + ", 2)", x.told(kind, 2), pass[kind]);
            due("told(" + kind + ", 3)", x.told(kind, 3), leak[kind]);
        }
        x.length(4);
        x.feed(20000, 0, 900);
        x.rule(3, 1);
        x.days(1);
        long[] fouled = {4, 3, 6, 2};
        for (int skin = 0; skin < 4; skin++) {
            due("told(" + skin + ", 1)", x.told(skin, 1), 90);
            due("told(" + skin + ", 2)", x.told(skin, 2), fouled[skin]);
            due("told(" + skin + ", 3)", x.told(skin, 3), leak[skin]);
        }
        // FOUL 22: 20 less 4 (4.4 is cut)
        x.rule(3, 1000);
        x.rule(4, 1);
        x.days(2);
        due("told(3, 1)", x.told(3, 1), 22);
        due("told(3, 2)", x.told(3, 2), 16);
        for (int skin : NO_SKINS) {
            due("told(" + skin + ", 0)", x.told(skin, 0), BAD);
        }
        for (int what : new int[] {-1, 4, LOW, HIGH}) {
            due("told(0, " + what + ")", x.told(0, what), BAD);
        }
    }

    private static void kinds() {
        promise = 6;
        SaltPlant x = new SaltPlant();
        long[][] is = {{1, 0, 0, 0}, {1, 1, 0, 0}, {1, 0, 1, 0}, {1, 1, 0, 1}};
        for (int own = 0; own < 4; own++) {
            x.fresh(130 + own, own);
            for (int kind = 0; kind < 4; kind++) {
                due("isOf(" + (130 + own) + ", " + kind + ")", x.isOf(130 + own, kind), is[own][kind]);
            }
        }
        for (int skin : NO_SKINS) {
            due("isOf(" + skin + ", 0)", x.isOf(skin, 0), BAD);
        }
        for (int kind : new int[] {-1, 4, LOW, HIGH}) {
            due("isOf(0, " + kind + ")", x.isOf(0, kind), BAD);
        }
    }

    private static void feeds() {
        promise = 7;
        SaltPlant x = new SaltPlant();
        due("feed(20000, 60000, 900)", x.feed(20000, 60000, 900), 0);
        due("flow(0, 0)", x.flow(0, 0), 20000);
        due("flow(0, 1)", x.flow(0, 1), 1200000000L);
        due("flow(0, 2)", x.flow(0, 2), 900);
        int[][] wrong = {{-1, 0, 0}, {20001, 0, 0}, {0, -1, 0}, {0, 60001, 0}, {0, 0, -1}, {0, 0, 901}, {LOW, LOW, LOW}, {HIGH, 1, 1}};
        for (int[] w : wrong) {
            due("feed(" + w[0] + ", " + w[1] + ", " + w[2] + ")", x.feed(w[0], w[1], w[2]), BAD);
        }
        due("flow(0, 1)", x.flow(0, 1), 1200000000L);
        due("feed(0, 0, 0)", x.feed(0, 0, 0), 0);
        due("flow(0, 0)", x.flow(0, 0), 0);
        due("flow(0, 2)", x.flow(0, 2), 0);
    }

    private static void changes() {
        promise = 8;
        SaltPlant x = new SaltPlant();
        x.feed(20000, 0, 900);
        x.rule(3, 10);
        x.days(1);
        x.fresh(235, 3);
        due("change(0, 235)", x.change(0, 235), 0);
        due("told(0, 0)", x.told(0, 0), 3);
        due("told(0, 1)", x.told(0, 1), 0);
        due("told(235, 0)", x.told(235, 0), 0);
        due("told(235, 1)", x.told(235, 1), 36);
        due("change(1, 1)", x.change(1, 1), BAD);
        for (int skin : NO_SKINS) {
            due("change(0, " + skin + ")", x.change(0, skin), BAD);
            due("change(" + skin + ", 0)", x.change(skin, 0), BAD);
            due("change(" + skin + ", " + skin + ")", x.change(skin, skin), BAD);
        }
        due("told(0, 0)", x.told(0, 0), 3);
        due("told(1, 1)", x.told(1, 1), 35);
    }

    private static void flowsOfSkins() {
        promise = 9;
        SaltPlant x = new SaltPlant();
        long[][] due = {{1000, 3000000, 60, 12, 360}, {988, 2999640, 58, 11, 330}, {977, 2999310, 56, 10, 300}};
        flowsAre(x, due);
        // a FINE skin, then one that lets all its water through, then one without water but with grains
        x.feed(100, 10000, 400);
        x.fresh(0, 3);
        flowsAre(x, new long[][] {{100, 1000000, 400, 60, 1200}, {40, 998800, 398, 40, 9960}, {0, 988840, 396, 0, 0}});
        x.fresh(0, 0);
        x.feed(100, 60000, 600);
        flowsAre(x, new long[][] {{100, 6000000, 600, 0, 0}, {100, 6000000, 598, 0, 0}, {100, 6000000, 596, 0, 0}});
        x.feed(100, 60000, 603);
        flowsAre(x, new long[][] {{100, 6000000, 603, 1, 600}, {99, 5999400, 601, 0, 0}, {99, 5999400, 599, 0, 0}});
        x.feed(100, 0, 3);
        flowsAre(x, new long[][] {{100, 0, 3, 1, 0}, {99, 0, 1, 0, 0}, {99, 0, 0, 0, 0}});
        for (int skin : NO_SKINS) {
            due("flow(" + skin + ", 0)", x.flow(skin, 0), BAD);
        }
        for (int what : new int[] {-1, 5, LOW, HIGH}) {
            due("flow(0, " + what + ")", x.flow(0, what), BAD);
            due("flow(100, " + what + ")", x.flow(100, what), BAD);
        }
        for (int skin : new int[] {3, 5, 10, 32, 100, 235}) {
            due("flow(" + skin + ", 0)", x.flow(skin, 0), NO);
        }
        vessels();
    }

    private static void flowsAre(SaltPlant x, long[][] due) {
        for (int skin = 0; skin < due.length; skin++) {
            for (int what = 0; what < 5; what++) {
                due("flow(" + skin + ", " + what + ")", x.flow(skin, what), due[skin][what]);
            }
        }
    }

    private static void vessels() {
        SaltPlant x = oneThenFour();
        long[] water = {22, 22, 22, 21};
        long[] grains = {50565, 50490, 50490, 48195};
        for (int v = 0; v < 4; v++) {
            int skin = 100 + 10 * v;
            due("flow(" + skin + ", 0)", x.flow(skin, 0), water[v]);
            due("flow(" + skin + ", 1)", x.flow(skin, 1), grains[v]);
            due("flow(" + skin + ", 2)", x.flow(skin, 2), 51);
            due("flow(" + skin + ", 3)", x.flow(skin, 3), 11);
            due("flow(" + skin + ", 4)", x.flow(skin, 4), 242);
        }
        // a stage that gets no water: the first vessel has all the grains
        x.feed(10, 1000, 900);
        due("flow(0, 3)", x.flow(0, 3), 10);
        due("flow(100, 0)", x.flow(100, 0), 0);
        due("flow(100, 1)", x.flow(100, 1), 9900);
        due("flow(110, 1)", x.flow(110, 1), 0);
    }

    private static void sweetWater() {
        promise = 10;
        SaltPlant x = new SaltPlant();
        threeOf("sweet", x, 33, 990, 30);
        x.feed(100, 10000, 400);
        x.fresh(0, 3);
        threeOf("sweet", x, 100, 11160, 111);
        threeOf("sweet", oneThenFour(), 57, 1228, 21);
        x.feed(0, 60000, 900);
        threeOf("sweet", x, 0, 0, 0);
        x.feed(100, 60000, 100);
        threeOf("sweet", x, 0, 0, 0);
        for (int what : new int[] {-1, 3, LOW, HIGH}) {
            due("sweet(" + what + ")", x.sweet(what), BAD);
        }
    }

    private static void threeOf(String what, SaltPlant x, long first, long second, long third) {
        long[] want = {first, second, third};
        for (int i = 0; i < 3; i++) {
            due(what + "(" + i + ")", what.equals("sweet") ? x.sweet(i) : x.brine(i), want[i]);
        }
    }

    private static void brineLeft() {
        promise = 11;
        SaltPlant x = new SaltPlant();
        threeOf("brine", x, 967, 2999010, 54);
        x.feed(100, 10000, 400);
        x.fresh(0, 3);
        threeOf("brine", x, 0, 988840, 394);
        threeOf("brine", oneThenFour(), 43, 198772, 49);
        x.feed(100, 0, 5);
        x.stage(1, 1);
        due("brine(2)", x.brine(2), 0);
        x.feed(100, 0, 13);
        due("brine(2)", x.brine(2), 1);
        x.stage(2, 1);
        due("brine(2)", x.brine(2), 0);
        for (int what : new int[] {-1, 3, LOW, HIGH}) {
            due("brine(" + what + ")", x.brine(what), BAD);
        }
    }

    private static void powers() {
        promise = 12;
        SaltPlant x = new SaltPlant();
        due("power()", x.power(), 600);
        x.feed(99, 0, 1);
        due("power()", x.power(), 0);
        x = oneThenFour();
        due("power()", x.power(), 53);
        // 49 * 43 / 100 is 21: 95 hundredths of that are 19
        x.rule(2, 95);
        due("power()", x.power(), 34);
        x.rule(2, 50);
        due("power()", x.power(), 43);
        x.rule(2, 100);
        due("power()", x.power(), 32);
        x.feed(20000, 0, 900);
        x.rule(2, 0);
        due("power()", x.power(), 180000);
    }

    private static void failures() {
        promise = 13;
        SaltPlant x = new SaltPlant();
        due("failure()", x.failure(), NONE);
        int[][] limits = {{967, 9999}, {968, 9999}, {978, 9999}, {989, 9999}, {0, 12}, {0, 11}, {989, 11}, {968, 10}, {978, 11}};
        long[] want = {NONE, 21, 11, 1, NONE, 2, 1, 2, 2};
        for (int i = 0; i < limits.length; i++) {
            x.rule(0, limits[i][0]);
            x.rule(1, limits[i][1]);
            due("failure() with " + limits[i][0] + ", " + limits[i][1], x.failure(), want[i]);
        }
        x = oneThenFour();
        x.rule(0, 10);
        due("failure()", x.failure(), NONE);
        x.rule(0, 11);
        due("failure()", x.failure(), 1301);
        x.rule(0, 12);
        due("failure()", x.failure(), 1001);
        x.rule(1, 12);
        due("failure()", x.failure(), 2);
        x = saltless(1000);
        x.stage(1, 2);
        x.fresh(110, 2);
        x.rule(1, 40);
        due("failure()", x.failure(), 1102);
    }

    private static void rulesTold() {
        promise = 14;
        SaltPlant x = new SaltPlant();
        int[] low = {0, 0, 0, 1, 0, 0, 0};
        int[] high = {9999, 9999, 100, 1000, 30, 200, 200};
        long[] first = {0, 9999, 0, 100, 0, 100, 10};
        for (int i = 0; i < 7; i++) {
            due("rule(" + i + ", " + high[i] + ")", x.rule(i, high[i]), first[i]);
            due("rule(" + i + ", " + (high[i] + 1) + ")", x.rule(i, high[i] + 1), BAD);
            due("rule(" + i + ", " + (low[i] - 1) + ")", x.rule(i, low[i] - 1), BAD);
            due("rule(" + i + ", " + LOW + ")", x.rule(i, LOW), BAD);
            due("rule(" + i + ", " + HIGH + ")", x.rule(i, HIGH), BAD);
            due("rule(" + i + ", " + low[i] + ")", x.rule(i, low[i]), high[i]);
            due("rule(" + i + ", " + high[i] + ")", x.rule(i, high[i]), low[i]);
        }
        for (int which : new int[] {-1, 7, LOW, HIGH}) {
            due("rule(" + which + ", 1)", x.rule(which, 1), BAD);
        }
    }

    private static void daysGo() {
        promise = 15;
        SaltPlant x = new SaltPlant();
        due("days(1)", x.days(1), 1);
        due("foul(0)", x.foul(0), 0);
        x.rule(3, 5);
        due("days(2)", x.days(2), 3);
        due("told(0, 1)", x.told(0, 1), 4);
        due("told(0, 2)", x.told(0, 2), 39);
        due("flow(0, 3)", x.flow(0, 3), 11);
        due("flow(1, 3)", x.flow(1, 3), 10);
        due("flow(2, 3)", x.flow(2, 3), 10);
        x.rule(4, 2);
        // DAY 4 washes: 4 + 2 is 6, its half 3
        due("days(1)", x.days(1), 4);
        due("foul(0)", x.foul(0), 9);
        due("days(1)", x.days(1), 5);
        due("foul(0)", x.foul(0), 15);
        for (int n : new int[] {0, -1, 61, LOW, HIGH}) {
            due("days(" + n + ")", x.days(n), BAD);
        }
        due("count(2)", x.count(2), 5);
        daysMost();
        daysOnlyStanding();
        daysAllAtOnce();
    }

    private static void daysMost() {
        SaltPlant x = new SaltPlant();
        for (int i = 1; i <= 16; i++) {
            due("days(60)", x.days(60), 60 * i);
        }
        due("days(41)", x.days(41), BAD);
        due("days(39)", x.days(39), 999);
        due("days(2)", x.days(2), BAD);
        due("days(1)", x.days(1), 1000);
        due("days(1)", x.days(1), BAD);
        due("count(2)", x.count(2), 1000);
    }

    private static void daysOnlyStanding() {
        SaltPlant x = new SaltPlant();
        x.feed(20000, 0, 900);
        x.rule(3, 1);
        x.stage(1, 1);
        x.days(1);
        due("told(100, 1)", x.told(100, 1), 90);
        due("told(110, 1)", x.told(110, 1), 0);
        due("told(3, 1)", x.told(3, 1), 0);
        x.stage(1, 0);
        x.length(2);
        x.rule(3, 1000);
        x.rule(4, 1);
        x.days(1);
        due("told(0, 1)", x.told(0, 1), 45);
        due("told(1, 1)", x.told(1, 1), 45);
        due("told(2, 1)", x.told(2, 1), 90);
        due("told(100, 1)", x.told(100, 1), 90);
        x.days(1);
        due("told(0, 1)", x.told(0, 1), 22);
    }

    /** What the second skin lets through must be by the flows before the first one got foul. */
    private static void daysAllAtOnce() {
        SaltPlant x = new SaltPlant();
        x.length(2);
        x.feed(50, 0, 100);
        x.rule(3, 1);
        // 40 of 50, then the 10 that are left
        x.days(1);
        due("told(0, 1)", x.told(0, 1), 40);
        due("told(1, 1)", x.told(1, 1), 10);
    }

    private static void fouls() {
        promise = 16;
        SaltPlant x = new SaltPlant();
        due("foul(1)", x.foul(1), 0);
        due("foul(2)", x.foul(2), 0);
        x.feed(20000, 0, 900);
        x.rule(3, 10);
        x.stage(0, 2);
        x.days(1);
        // 360, 359 and 358 let through by each vessel
        due("foul(0)", x.foul(0), 2 * (36 + 35 + 35));
        due("foul(1)", x.foul(1), 36);
        due("foul(2)", x.foul(2), 0);
        x.fresh(0, 0);
        due("foul(0)", x.foul(0), 36 + 4 * 35);
        due("foul(2)", x.foul(2), 10);
        x.change(10, 12);
        due("foul(2)", x.foul(2), 12);
        x.length(2);
        due("foul(0)", x.foul(0), 3 * 35);
        due("foul(1)", x.foul(1), 35);
        due("foul(2)", x.foul(2), 1);
        x.stage(0, 1);
        due("foul(0)", x.foul(0), 35);
        for (int what : new int[] {-1, 3, LOW, HIGH}) {
            due("foul(" + what + ")", x.foul(what), BAD);
        }
    }

    private static void bestChanges() {
        promise = 17;
        SaltPlant x = new SaltPlant();
        due("swap()", x.swap(), NONE);
        x.feed(1000, 0, 100);
        x.fresh(2, 2);
        // 40 + 39 + 57; with 0 and 2 changed 60 + 39 + 38
        due("swap()", x.swap(), 2);
        due("told(2, 0)", x.told(2, 0), 2);
        due("sweet(0)", x.sweet(0), 136);
        x.change(0, 2);
        due("swap()", x.swap(), NONE);
        x = saltless(1000);
        x.stage(1, 2);
        x.fresh(100, 2);
        x.fresh(110, 2);
        due("swap()", x.swap(), 100);
        x = saltless(1000);
        x.stage(0, 2);
        x.stage(1, 1);
        x.fresh(100, 2);
        due("swap()", x.swap(), 100);
        x.fresh(0, 2);
        due("swap()", x.swap(), 10100);
        // a skin that does not stand is no skin to change with
        x = saltless(1000);
        x.fresh(1, 2);
        x.fresh(10, 2);
        x.fresh(100, 2);
        due("swap()", x.swap(), NONE);
        bestChangeByLeak();
    }

    /** Two skins with one PASS: the one that leaks more, set ahead, leaves less salt to push against. */
    private static void bestChangeByLeak() {
        SaltPlant x = new SaltPlant();
        x.length(1);
        x.feed(20000, 0, 900);
        x.fresh(0, 2);
        x.rule(3, 10);
        x.days(1);
        x.change(0, 1);
        x.rule(3, 12);
        x.days(1);
        due("told(0, 2)", x.told(0, 2), 28);
        due("told(1, 2)", x.told(1, 2), 28);
        x.length(2);
        x.feed(200, 20000, 600);
        due("sweet(0)", x.sweet(0), 112 + 40);
        due("swap()", x.swap(), 1);
        x.change(0, 1);
        due("sweet(0)", x.sweet(0), 112 + 42);
        due("swap()", x.swap(), NONE);
    }

    private static void arrays() {
        promise = 18;
        SaltPlant x = saltless(1000);
        int[] want = {0, 40, 41, 79, 80, 117, 118, 468, 469};
        long[] array = {100100, 100100, 100110, 100110, 100111, 100111, 100112, 100444, 200114};
        for (int i = 0; i < want.length; i++) {
            due("array(" + want[i] + ", 0)", x.array(want[i], 0), array[i]);
        }
        due("array(1001, 60000)", x.array(1001, 60000), NO);
        due("array(99999, 60000)", x.array(99999, 60000), NO);
        x.rule(2, 100);
        due("array(79, 0)", x.array(79, 0), 100200);
        due("array(100, 0)", x.array(100, 0), 100300);
        x.fresh(10, 2);
        due("array(100, 0)", x.array(100, 0), 100200);
        due("count(0)", x.count(0), 1);
        due("brine(2)", x.brine(2), 98);
        arraysByQuality();
        arraysByLimits();
        int[][] wrong = {{-1, 0}, {100000, 0}, {0, -1}, {0, 60001}, {LOW, 0}, {0, HIGH}};
        for (int[] w : wrong) {
            due("array(" + w[0] + ", " + w[1] + ")", x.array(w[0], w[1]), BAD);
        }
    }

    /** GRAINS are at most QUALITY for each of the water: 1742 in 50 are more than 34 for each. */
    private static void arraysByQuality() {
        SaltPlant x = new SaltPlant();
        x.length(1);
        x.feed(100, 3000, 60);
        due("array(1, 29)", x.array(1, 29), NO);
        due("array(1, 30)", x.array(1, 30), 100100);
        due("array(50, 34)", x.array(50, 34), 100200);
        due("array(50, 35)", x.array(50, 35), 100110);
        // without water there are no grains to be too many
        x.feed(0, 60000, 60);
        due("array(0, 0)", x.array(0, 0), 100100);
        due("array(1, 60000)", x.array(1, 60000), NO);
    }

    private static void arraysByLimits() {
        SaltPlant x = saltless(100);
        x.rule(0, 21);
        due("array(79, 0)", x.array(79, 0), 100110);
        x.rule(0, 22);
        due("array(79, 0)", x.array(79, 0), NO);
        x = saltless(1000);
        x.rule(1, 40);
        due("array(468, 0)", x.array(468, 0), 100444);
        due("array(469, 0)", x.array(469, 0), NO);
        x.rule(1, 39);
        due("array(0, 0)", x.array(0, 0), NO);
    }

    private static void hoursTold() {
        promise = 19;
        SaltPlant x = new SaltPlant();
        due("hour(0, 0, 99)", x.hour(0, 0, 99), 0);
        due("hour(11, 1, 999)", x.hour(11, 1, 999), 0);
        due("hour(0, 1, 3)", x.hour(0, 1, 3), 0);
        due("hour(0, 0, 7)", x.hour(0, 0, 7), 99);
        int[][] wrong = {{-1, 0, 0}, {12, 0, 0}, {0, -1, 0}, {0, 2, 0}, {0, 0, -1}, {0, 0, 100}, {0, 1, -1}, {0, 1, 1000}, {LOW, 0, 0}, {HIGH, 1, 1}, {0, HIGH, 0}, {0, 1, LOW}};
        for (int[] w : wrong) {
            due("hour(" + w[0] + ", " + w[1] + ", " + w[2] + ")", x.hour(w[0], w[1], w[2]), BAD);
        }
        due("hour(0, 0, 0)", x.hour(0, 0, 0), 7);
        due("hour(0, 1, 0)", x.hour(0, 1, 0), 3);
        due("hour(11, 1, 0)", x.hour(11, 1, 0), 999);
        due("hour(11, 0, 0)", x.hour(11, 0, 0), 0);
    }

    private static void laying() {
        promise = 20;
        SaltPlant x = new SaltPlant();
        due("lay(0, 1)", x.lay(0, 1), NOTHING);
        int[][] wrong = {{-1, 0}, {2, 0}, {0, -1}, {0, 2}, {LOW, 1}, {1, HIGH}};
        for (int[] w : wrong) {
            due("lay(" + w[0] + ", " + w[1] + ")", x.lay(w[0], w[1]), BAD);
        }
        for (int i = 0; i < 12; i++) {
            x.hour(i, 0, 50);
            x.hour(i, 1, 500);
        }
        x.sheet(1, 5);
        int[] marks = {99, 100, -1, 999, 1000};
        for (int i = 0; i < 5; i++) {
            x.mark(1, i, marks[i]);
        }
        due("lay(0, 1)", x.lay(0, 1), 5);
        due("lay(1, 1)", x.lay(1, 1), 5);
        long[] price = {99, 0, 0, 0, 0, 0};
        long[] need = {99, 100, 0, 999, 0, 0};
        for (int i = 0; i < 6; i++) {
            due("hour(" + i + ", 0, 1)", x.hour(i, 0, 1), price[i]);
            due("hour(" + i + ", 1, 1)", x.hour(i, 1, 1), need[i]);
        }
        due("hour(11, 1, 1)", x.hour(11, 1, 1), 0);
        x.sheet(0, 24);
        x.mark(0, 11, 8);
        x.mark(0, 12, 9);
        due("lay(1, 0)", x.lay(1, 0), 12);
        due("hour(11, 1, 1)", x.hour(11, 1, 1), 8);
        x.sheet(0, 0);
        due("lay(1, 0)", x.lay(1, 0), 0);
        due("hour(11, 1, 1)", x.hour(11, 1, 1), 0);
        due("hour(0, 0, 1)", x.hour(0, 0, 1), 1);
    }

    /** Need of 10 at hour 1, cheaper an hour before. */
    private static SaltPlant cheapFirst() {
        SaltPlant x = new SaltPlant();
        x.hour(0, 0, 1);
        x.hour(1, 0, 5);
        x.hour(1, 1, 10);
        return x;
    }

    private static void plans() {
        promise = 21;
        SaltPlant x = new SaltPlant();
        due("plan(0)", x.plan(0), 0);
        x = cheapFirst();
        due("plan(0)", x.plan(0), 1);
        due("plan(9)", x.plan(9), 1);
        due("plan(10)", x.plan(10), 0);
        x.hour(1, 1, 20);
        due("plan(0)", x.plan(0), 6);
        x.hour(1, 1, 21);
        due("plan(0)", x.plan(0), NO);
        // need is taken ahead of what the tank does not hold: 10 held and 10 given meet 20
        x = cheapFirst();
        x.hour(1, 1, 20);
        x.rule(5, 10);
        due("plan(0)", x.plan(0), 6);
        x.rule(5, 9);
        due("plan(0)", x.plan(0), NO);
        due("plan(10)", x.plan(10), BAD);
        due("plan(9)", x.plan(9), NO);
        due("plan(-1)", x.plan(-1), BAD);
        due("plan(min)", x.plan(LOW), BAD);
        due("plan(max)", x.plan(HIGH), BAD);
        // all hours at the highest price
        x = new SaltPlant();
        for (int i = 0; i < 12; i++) {
            x.hour(i, 0, 99);
            x.hour(i, 1, 10);
        }
        due("plan(0)", x.plan(0), 12 * 99);
        x.rule(5, 0);
        due("plan(0)", x.plan(0), 12 * 99);
        x.rule(5, 200);
        due("plan(200)", x.plan(200), 0);
        due("plan(201)", x.plan(201), BAD);
        x.rule(5, 100);
        due("plan(100)", x.plan(100), 2 * 99);
    }

    private static void runsOfPlans() {
        promise = 22;
        SaltPlant x = cheapFirst();
        due("runs(0)", x.runs(0), 1);
        due("runs(10)", x.runs(10), 0);
        x.hour(1, 0, 1);
        due("runs(0)", x.runs(0), 2);
        x.hour(1, 1, 20);
        due("runs(0)", x.runs(0), 3);
        x.hour(1, 1, 0);
        x.hour(11, 1, 20);
        // ten hours without a price: the last two that serve
        due("runs(0)", x.runs(0), 1 << 10 | 1 << 11);
        x.hour(11, 1, 120);
        due("runs(0)", x.runs(0), NO);
        x.rule(5, 110);
        due("runs(0)", x.runs(0), 4095);
        x.rule(5, 109);
        due("runs(0)", x.runs(0), NO);
        due("runs(110)", x.runs(110), BAD);
        due("runs(-1)", x.runs(-1), BAD);
    }

    private static void tanks() {
        promise = 23;
        SaltPlant x = cheapFirst();
        due("tank(0, 0)", x.tank(0, 0), 10);
        due("tank(0, 1)", x.tank(0, 1), 0);
        due("tank(0, 11)", x.tank(0, 11), 0);
        due("tank(7, 0)", x.tank(7, 0), 17);
        due("tank(7, 1)", x.tank(7, 1), 7);
        due("tank(12, 11)", x.tank(12, 11), 2);
        // 200 given, 10 taken, and of 190 the tank holds 20
        x.rule(6, 200);
        x.rule(5, 20);
        x.hour(0, 0, 9);
        due("runs(0)", x.runs(0), 2);
        due("tank(0, 0)", x.tank(0, 0), 0);
        due("tank(0, 1)", x.tank(0, 1), 20);
        int[][] wrong = {{-1, 0}, {21, 0}, {0, -1}, {0, 12}, {LOW, HIGH}};
        for (int[] w : wrong) {
            due("tank(" + w[0] + ", " + w[1] + ")", x.tank(w[0], w[1]), BAD);
        }
        x.hour(5, 1, 221);
        due("tank(0, 0)", x.tank(0, 0), NO);
        due("tank(0, 12)", x.tank(0, 12), BAD);
        x.hour(5, 1, 220);
        due("tank(0, 5)", x.tank(0, 5), 0);
    }

    private static void joints() {
        promise = 24;
        SaltPlant x = new SaltPlant();
        due("joint(0, 0, 0)", x.joint(0, 0, 0), NOTHING);
        due("joint(10, 0, 0)", x.joint(10, 0, 0), NO);
        due("joint(10, 2, 0)", x.joint(10, 2, 0), BAD);
        int[][] wrong = {{-1, 0, 0}, {4, 0, 0}, {9, 0, 0}, {14, 0, 0}, {24, 0, 0}, {30, 0, 0}, {LOW, 0, 0}, {HIGH, 0, 0}, {429496730, 0, 0}, {0, -1, 0}, {0, 2, 0}, {0, 0, -1}, {0, 0, 10000}};
        for (int[] w : wrong) {
            due("joint(" + w[0] + ", " + w[1] + ", " + w[2] + ")", x.joint(w[0], w[1], w[2]), BAD);
        }
        // each of the three lets 30 through
        x.sheet(0, 24);
        x.mark(0, 0, -32768);
        x.mark(0, 1, 30);
        x.mark(0, 2, 35);
        x.mark(0, 3, 9999);
        due("joint(0, 0, 0)", x.joint(0, 0, 0), 2);
        due("joint(0, 0, 4)", x.joint(0, 0, 4), 2);
        due("joint(0, 0, 5)", x.joint(0, 0, 5), NONE);
        due("joint(0, 0, 9999)", x.joint(0, 0, 9999), NONE);
        x.fresh(1, 1);
        due("joint(0, 0, 5)", x.joint(0, 0, 5), 1);
        x.length(4);
        due("joint(0, 0, 100)", x.joint(0, 0, 100), 3);
        x.sheet(1, 1);
        x.mark(1, 0, 23);
        due("joint(0, 1, 0)", x.joint(0, 1, 0), NONE);
        x = oneThenFour();
        x.sheet(1, 1);
        x.mark(1, 0, 23);
        due("joint(13, 1, 0)", x.joint(13, 1, 0), 0);
        due("joint(13, 1, 1)", x.joint(13, 1, 1), NONE);
        due("joint(3, 1, 0)", x.joint(3, 1, 0), NO);
        due("joint(23, 0, 0)", x.joint(23, 0, 0), NO);
        x.sheet(1, 0);
        due("joint(13, 1, 0)", x.joint(13, 1, 0), NONE);
    }

    private static void sheetsMade() {
        promise = 25;
        SaltPlant x = new SaltPlant();
        due("sheet(1, 24)", x.sheet(1, 24), 24);
        due("mark(1, 23, 5)", x.mark(1, 23, 5), 0);
        due("sheet(1, 25)", x.sheet(1, 25), BAD);
        due("sheet(1, max)", x.sheet(1, HIGH), BAD);
        due("sheet(1, -1)", x.sheet(1, -1), SIZE);
        due("sheet(1, min)", x.sheet(1, LOW), SIZE);
        for (int s : new int[] {-1, 2, LOW, HIGH}) {
            due("sheet(" + s + ", 1)", x.sheet(s, 1), BAD);
            due("sheet(" + s + ", -1)", x.sheet(s, -1), BAD);
        }
        due("mark(1, 23, 5)", x.mark(1, 23, 5), 5);
        due("count(3)", x.count(3), 1);
        due("sheet(1, 24)", x.sheet(1, 24), 24);
        due("mark(1, 23, 5)", x.mark(1, 23, 5), 0);
        due("sheet(1, 2)", x.sheet(1, 2), 2);
        due("mark(1, 2, 5)", x.mark(1, 2, 5), INDEX);
        due("sheet(0, 0)", x.sheet(0, 0), 0);
        due("mark(0, 0, 5)", x.mark(0, 0, 5), INDEX);
        due("count(3)", x.count(3), 2);
    }

    private static void marks() {
        promise = 26;
        SaltPlant x = new SaltPlant();
        due("mark(0, -1, 0)", x.mark(0, -1, 0), NOTHING);
        due("mark(2, 0, 0)", x.mark(2, 0, 0), BAD);
        due("mark(-1, 0, 0)", x.mark(-1, 0, 0), BAD);
        x.sheet(0, 3);
        due("mark(0, 2, 32767)", x.mark(0, 2, 32767), 0);
        due("mark(0, 2, 32768)", x.mark(0, 2, 32768), 32767);
        due("mark(0, 2, 70000)", x.mark(0, 2, 70000), -32768);
        due("mark(0, 2, -70000)", x.mark(0, 2, -70000), 4464);
        due("mark(0, 2, 0)", x.mark(0, 2, 0), -4464);
        for (int place : new int[] {-1, 3, 24, LOW, HIGH}) {
            due("mark(0, " + place + ", 1)", x.mark(0, place, 1), INDEX);
        }
        due("mark(1, 0, 1)", x.mark(1, 0, 1), NOTHING);
    }

    private static void copies() {
        promise = 27;
        SaltPlant x = new SaltPlant();
        due("copy(0, 0, 0, 0, 0)", x.copy(0, 0, 0, 0, 0), NOTHING);
        x.sheet(0, 5);
        due("copy(0, 9, 1, 0, 1)", x.copy(0, 9, 1, 0, 1), NOTHING);
        due("copy(1, 0, 0, 0, 1)", x.copy(1, 0, 0, 0, 1), NOTHING);
        x.sheet(1, 3);
        for (int i = 0; i < 5; i++) {
            x.mark(0, i, i + 1);
        }
        due("copy(0, 3, 1, 1, 2)", x.copy(0, 3, 1, 1, 2), 2);
        sheetIs(x, 1, 0, 4, 5);
        due("copy(0, 0, 0, 1, 4)", x.copy(0, 0, 0, 1, 4), 4);
        sheetIs(x, 0, 1, 1, 2, 3, 4);
        due("copy(0, 1, 0, 0, 4)", x.copy(0, 1, 0, 0, 4), 4);
        sheetIs(x, 0, 1, 2, 3, 4, 4);
        due("copy(0, 5, 1, 3, 0)", x.copy(0, 5, 1, 3, 0), 0);
        int[][] none = {{-1, 0, 1}, {0, -1, 1}, {5, 0, 1}, {0, 3, 1}, {0, 0, 4}, {4, 0, 2}, {6, 0, 0}, {0, 4, 0}, {0, 0, -1}, {1, 1, -1}, {HIGH, 0, 1}, {0, HIGH, HIGH}, {1, 1, HIGH}, {0, 0, LOW}, {LOW, LOW, 2}};
        for (int[] n : none) {
            due("copy(0, " + n[0] + ", 1, " + n[1] + ", " + n[2] + ")", x.copy(0, n[0], 1, n[1], n[2]), INDEX);
        }
        for (int s : new int[] {-1, 2, LOW, HIGH}) {
            due("copy(" + s + ", 0, 0, 0, 1)", x.copy(s, 0, 0, 0, 1), BAD);
            due("copy(0, 0, " + s + ", 0, 1)", x.copy(0, 0, s, 0, 1), BAD);
            due("copy(" + s + ", 9, 0, 9, 9)", x.copy(s, 9, 0, 9, 9), BAD);
        }
        sheetIs(x, 0, 1, 2, 3, 4, 4);
        sheetIs(x, 1, 0, 4, 5);
    }

    private static void sheetIs(SaltPlant x, int s, int... marks) {
        for (int i = 0; i < marks.length; i++) {
            due("place " + i + " of sheet " + s, x.mark(s, i, marks[i]), marks[i]);
        }
    }

    private static void counts() {
        promise = 28;
        SaltPlant x = new SaltPlant();
        x.stage(0, 4);
        x.stage(2, 3);
        due("count(0)", x.count(0), 4);
        x.stage(1, 2);
        x.length(5);
        due("count(0)", x.count(0), 9);
        due("count(1)", x.count(1), 45);
        x.days(7);
        due("count(2)", x.count(2), 7);
        x.sheet(1, 0);
        due("count(3)", x.count(3), 1);
        x.sheet(0, 1);
        due("count(3)", x.count(3), 2);
        for (int what : new int[] {-1, 4, LOW, HIGH}) {
            due("count(" + what + ")", x.count(what), BAD);
        }
    }

    public static void main(String[] args) {
        constants();
        newObject();
        stages();
        lengths();
        freshSkins();
        toldOfSkins();
        kinds();
        feeds();
        changes();
        flowsOfSkins();
        sweetWater();
        brineLeft();
        powers();
        failures();
        rulesTold();
        daysGo();
        fouls();
        bestChanges();
        arrays();
        hoursTold();
        laying();
        plans();
        runsOfPlans();
        tanks();
        joints();
        sheetsMade();
        marks();
        copies();
        counts();
        CHECK.end();
    }
}
