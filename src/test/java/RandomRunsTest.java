import java.util.Random;

/** Long runs of calls with arguments good and bad, each answer held against the plain model's. */
public final class RandomRunsTest {
    private static final int RUNS = 400;
    private static final int CALLS = 512;
    private static final int[] ODD = {Integer.MIN_VALUE, -1000, -100, -10, -1, Integer.MAX_VALUE, 1 << 30, 65536, 100000};

    private final Random random;
    private final SaltPlant plant = new SaltPlant();
    private final Model model = new Model();
    private final Check check;
    private final String name;
    /** How wild a run is: one argument of so many is taken from far outside. */
    private final int tame;

    private RandomRunsTest(int run, Check check) {
        random = new Random(run * 7919L + 17);
        this.check = check;
        name = "run " + run;
        tame = run % 4 == 0 ? 12 : 60;
    }

    /** A number of low .. high, often at an edge, now and then outside. */
    private int number(int low, int high) {
        int how = random.nextInt(tame);
        if (how == 0) {
            return ODD[random.nextInt(ODD.length)];
        }
        if (how == 1) {
            return random.nextBoolean() ? low - 1 : high + 1;
        }
        if (how < 5) {
            return random.nextBoolean() ? low : high;
        }
        return low + random.nextInt(high - low + 1);
    }

    private int skin() {
        if (random.nextInt(tame) == 0) {
            return number(-5, 400);
        }
        return 100 * random.nextInt(3) + 10 * random.nextInt(4) + random.nextInt(6);
    }

    /** Mostly a skin that stands, so that answers about flows are not all NO. */
    private int standingSkin() {
        java.util.List<Integer> all = model.standing();
        return random.nextInt(4) == 0 ? skin() : all.get(random.nextInt(all.size()));
    }

    private void due(String call, long got, long want) {
        check.due(name + ": " + call, got, want);
    }

    private void plantCall() {
        int a;
        int b;
        int c;
        switch (random.nextInt(9)) {
            case 0:
                a = number(0, 2); b = number(0, 4);
                due("stage(" + a + ", " + b + ")", plant.stage(a, b), model.stage(a, b));
                break;
            case 1:
                a = number(1, 6);
                due("length(" + a + ")", plant.length(a), model.length(a));
                break;
            case 2: case 3:
                a = standingSkin(); b = number(0, 3);
                due("fresh(" + a + ", " + b + ")", plant.fresh(a, b), model.fresh(a, b));
                break;
            case 4:
                a = standingSkin(); b = number(0, 3);
                due("told(" + a + ", " + b + ")", plant.told(a, b), model.told(a, b));
                break;
            case 5:
                a = standingSkin(); b = number(0, 3);
                due("isOf(" + a + ", " + b + ")", plant.isOf(a, b), model.isOf(a, b));
                break;
            case 6:
                a = number(0, random.nextBoolean() ? 20000 : 300); b = number(0, random.nextBoolean() ? 60000 : 3000); c = number(0, 900);
                due("feed(" + a + ", " + b + ", " + c + ")", plant.feed(a, b, c), model.feed(a, b, c));
                break;
            case 7:
                a = standingSkin(); b = random.nextInt(10) == 0 ? a : standingSkin();
                due("change(" + a + ", " + b + ")", plant.change(a, b), model.change(a, b));
                break;
            default:
                a = number(0, 3);
                due("count(" + a + ")", plant.count(a), model.count(a));
        }
    }

    private void flowCall() {
        int a;
        int b;
        switch (random.nextInt(8)) {
            case 0: case 1: case 2:
                a = standingSkin(); b = number(0, 4);
                due("flow(" + a + ", " + b + ")", plant.flow(a, b), model.flow(a, b));
                break;
            case 3:
                a = number(0, 2);
                due("sweet(" + a + ")", plant.sweet(a), model.sweet(a));
                break;
            case 4:
                a = number(0, 2);
                due("brine(" + a + ")", plant.brine(a), model.brine(a));
                break;
            case 5:
                due("power()", plant.power(), model.power());
                break;
            case 6:
                due("failure()", plant.failure(), model.failure());
                break;
            default:
                ruleCall();
        }
    }

    private void ruleCall() {
        int[] high = {random.nextBoolean() ? 9999 : 60, random.nextBoolean() ? 9999 : 300, 100, random.nextBoolean() ? 1000 : 30, 30, 200, random.nextBoolean() ? 200 : 30};
        int which = number(0, 6);
        int v = number(which == 3 ? 1 : 0, which < 0 || which > 6 ? 10 : high[which]);
        due("rule(" + which + ", " + v + ")", plant.rule(which, v), model.rule(which, v));
    }

    private void dayCall() {
        int a;
        switch (random.nextInt(12)) {
            case 0: case 1: case 2: case 3: case 4:
                a = number(1, random.nextInt(8) == 0 ? 60 : 4);
                due("days(" + a + ")", plant.days(a), model.days(a));
                break;
            case 5: case 6: case 7: case 8: case 9:
                a = number(0, 2);
                due("foul(" + a + ")", plant.foul(a), model.foul(a));
                break;
            case 10:
                due("swap()", plant.swap(), model.swap());
                break;
            default:
                a = number(0, random.nextInt(4) == 0 ? 99999 : (int) model.water + 1);
                int quality = number(0, random.nextInt(4) == 0 ? 60000 : (int) model.salt / 40 + 1);
                due("array(" + a + ", " + quality + ")", plant.array(a, quality), model.array(a, quality));
        }
    }

    private void hourCall() {
        int a;
        int b;
        int c;
        switch (random.nextInt(8)) {
            case 0: case 1: case 2:
                a = number(0, 11); b = number(0, 1); c = number(0, b == 0 ? (random.nextBoolean() ? 99 : 3) : random.nextInt(9) == 0 ? 999 : 20);
                due("hour(" + a + ", " + b + ", " + c + ")", plant.hour(a, b, c), model.hour(a, b, c));
                break;
            case 3:
                a = number(0, 1); b = number(0, 1);
                due("lay(" + a + ", " + b + ")", plant.lay(a, b), model.lay(a, b));
                break;
            case 4:
                a = number(0, model.rules[5]);
                due("plan(" + a + ")", plant.plan(a), model.plan(a));
                break;
            case 5: case 6:
                a = number(0, model.rules[5]);
                due("runs(" + a + ")", plant.runs(a), model.runs(a));
                break;
            default:
                a = number(0, model.rules[5]); b = number(0, 11);
                due("tank(" + a + ", " + b + ")", plant.tank(a, b), model.tank(a, b));
        }
    }

    private void sheetCall() {
        int a;
        int b;
        int c;
        switch (random.nextInt(8)) {
            case 0:
                a = number(0, 1); b = number(0, 24);
                due("sheet(" + a + ", " + b + ")", plant.sheet(a, b), model.sheet(a, b));
                break;
            case 1: case 2: case 3:
                a = number(0, 1); b = number(0, 23); c = random.nextInt(3) == 0 ? random.nextInt() : number(0, 400);
                due("mark(" + a + ", " + b + ", " + c + ")", plant.mark(a, b, c), model.mark(a, b, c));
                break;
            case 4:
                a = number(0, 1); b = number(0, 12); c = number(0, 1);
                int at = number(0, 12);
                int many = number(0, 12);
                due("copy(" + a + ", " + b + ", " + c + ", " + at + ", " + many + ")", plant.copy(a, b, c, at, many), model.copy(a, b, c, at, many));
                break;
            default:
                a = standingSkin() / 10; b = number(0, 1); c = number(0, random.nextBoolean() ? 9999 : 50);
                due("joint(" + a + ", " + b + ", " + c + ")", plant.joint(a, b, c), model.joint(a, b, c));
        }
    }

    private void go() {
        for (int i = 0; i < CALLS && !check.failed(); i++) {
            switch (random.nextInt(5)) {
                case 0: plantCall(); break;
                case 1: flowCall(); break;
                case 2: dayCall(); break;
                case 3: hourCall(); break;
                default: sheetCall();
            }
        }
    }

    public static void main(String[] args) {
        Check check = new Check();
        for (int run = 0; run < RUNS; run++) {
            new RandomRunsTest(run, check).go();
        }
        check.end();
    }
}
