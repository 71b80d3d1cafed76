import java.util.Arrays;

/** A plant that presses sweet water out of salt; ../shared/DOC.md says what each call answers. */
public final class SaltPlant {
    public static final long BAD = -9000000000000000001L, NO = -9000000000000000002L, FULL = -9000000000000000003L, SPENT = -9000000000000000004L, NONE = -9000000000000000005L, NOTHING = -9000000000000000011L, INDEX = -9000000000000000013L, SIZE = -9000000000000000014L;

    private static final int STAGES = 3;
    private static final int VESSELS = 4;
    private static final int SKINS = 6;
    private static final int IN_STAGE = VESSELS * SKINS;
    /** Every skin that can ever stand has one place, in the order by stages, vessels, skins. */
    private static final int PLACES = STAGES * IN_STAGE;

    private static final int KINDS = 4;
    private static final int MOST_WATER = 20000;
    private static final int MOST_SALT = 60000;
    private static final int MOST_PRESSURE = 900;
    private static final int PRESSURE_STEP = 100;
    private static final int MOST_WANT = 99999;
    private static final int MOST_OFF = 9999;
    private static final int DAYS_AT_ONCE = 60;
    private static final int DAYS_IN_ALL = 1000;

    private static final int RULES = 7;
    private static final int LEAST = 0;
    private static final int MOST = 1;
    private static final int GIVEN_BACK = 2;
    private static final int RATE = 3;
    private static final int WASHING = 4;
    private static final int TANK = 5;
    private static final int OUT = 6;
    private static final int[] RULE_LOW = {0, 0, 0, 1, 0, 0, 0};
    private static final int[] RULE_HIGH = {9999, 9999, 100, 1000, 30, 200, 200};

    private final int[] rules = {0, 9999, 0, 100, 0, 100, 10};
    private final Layout layout = new Layout();
    /** The layout that a search tries, so that the plant's own stays as it is. */
    private final Layout trial = new Layout();
    private final Skins skins = new Skins();
    private final Flows flows = new Flows();
    private final Hours hours = new Hours();
    private final Sheet[] sheets = {new Sheet(), new Sheet()};
    private int feedWater = 1000;
    private int feedSalt = 3000;
    private int feedPressure = 60;
    private int daysGone = 0;

    public SaltPlant() {
    }

    // ---- the plant

    public long stage(int stage, int n) {
        if (outside(stage, 0, STAGES - 1) || outside(n, stage == 0 ? 1 : 0, VESSELS)) {
            return BAD;
        }
        int before = layout.vessels[stage];
        layout.vessels[stage] = n;
        return before;
    }

    public long length(int n) {
        if (outside(n, 1, SKINS)) {
            return BAD;
        }
        int before = layout.inVessel;
        layout.inVessel = n;
        return before;
    }

    public long fresh(int skin, int kind) {
        int place = placeOf(skin);
        if (place < 0 || outside(kind, 0, KINDS - 1)) {
            return BAD;
        }
        return skins.renew(place, kind);
    }

    public long told(int skin, int what) {
        int place = placeOf(skin);
        if (place < 0) {
            return BAD;
        }
        switch (what) {
            case 0: return skins.kinds[place];
            case 1: return skins.fouls[place];
            case 2: return skins.passAt(place);
            case 3: return skins.leakAt(place);
            default: return BAD;
        }
    }

    public long isOf(int skin, int kind) {
        int place = placeOf(skin);
        if (place < 0 || outside(kind, 0, KINDS - 1)) {
            return BAD;
        }
        return skins.isUnder(place, kind) ? 1 : 0;
    }

    public long feed(int water, int salt, int pressure) {
        if (outside(water, 0, MOST_WATER) || outside(salt, 0, MOST_SALT) || outside(pressure, 0, MOST_PRESSURE)) {
            return BAD;
        }
        feedWater = water;
        feedSalt = salt;
        feedPressure = pressure;
        return 0;
    }

    public long change(int skin, int other) {
        int one = placeOf(skin);
        int two = placeOf(other);
        if (one < 0 || two < 0 || one == two) {
            return BAD;
        }
        skins.exchange(one, two);
        return 0;
    }

    // ---- flows

    public long flow(int skin, int what) {
        int place = placeOf(skin);
        if (place < 0 || outside(what, 0, 4)) {
            return BAD;
        }
        if (!layout.holdsSkin(place)) {
            return NO;
        }
        letFlow();
        switch (what) {
            case 0: return flows.water[place];
            case 1: return flows.grains[place];
            case 2: return flows.pressure[place];
            case 3: return flows.through[place];
            default: return flows.throughGrains[place];
        }
    }

    public long sweet(int what) {
        if (outside(what, 0, 2)) {
            return BAD;
        }
        letFlow();
        switch (what) {
            case 0: return flows.sweetWater;
            case 1: return flows.sweetGrains;
            default: return Flows.saltOf(flows.sweetWater, flows.sweetGrains);
        }
    }

    public long brine(int what) {
        if (outside(what, 0, 2)) {
            return BAD;
        }
        letFlow();
        switch (what) {
            case 0: return flows.stayWater;
            case 1: return flows.stayGrains;
            default: return flows.stayPressure;
        }
    }

    public long power() {
        letFlow();
        return powerAt(feedPressure);
    }

    public long failure() {
        letFlow();
        return flows.firstFailure(layout, rules[LEAST], rules[MOST]);
    }

    public long rule(int which, int v) {
        if (outside(which, 0, RULES - 1) || outside(v, RULE_LOW[which], RULE_HIGH[which])) {
            return BAD;
        }
        int before = rules[which];
        rules[which] = v;
        return before;
    }

    // ---- days

    public long days(int n) {
        if (outside(n, 1, DAYS_AT_ONCE) || daysGone + n > DAYS_IN_ALL) {
            return BAD;
        }
        for (int i = 0; i < n; i++) {
            passDay();
        }
        return daysGone;
    }

    public long foul(int what) {
        if (outside(what, 0, 2)) {
            return BAD;
        }
        long sum = 0;
        int worst = 0;
        for (int place = 0; place < PLACES; place++) {
            if (layout.holdsSkin(place)) {
                sum += skins.fouls[place];
                // place 0 always stands, so only a fouler skin takes its rank
                worst = skins.fouls[place] > skins.fouls[worst] ? place : worst;
            }
        }
        if (what == 0) {
            return sum;
        }
        return what == 1 ? skins.fouls[worst] : numberOf(worst);
    }

    public long swap() {
        letFlow();
        long best = NONE;
        long most = flows.sweetWater;
        for (int lesser = 0; lesser < PLACES; lesser++) {
            for (int greater = lesser + 1; greater < PLACES; greater++) {
                if (isPair(lesser, greater)) {
                    long water = sweetWaterIfChanged(lesser, greater);
                    if (water > most) {
                        most = water;
                        best = 1000L * numberOf(lesser) + numberOf(greater);
                    }
                }
            }
        }
        return best;
    }

    // ---- arrays

    public long array(int want, int quality) {
        if (outside(want, 0, MOST_WANT) || outside(quality, 0, MOST_SALT)) {
            return BAD;
        }
        flows.take(skins);
        trial.inVessel = layout.inVessel;
        long best = NO;
        long leastPower = Long.MAX_VALUE;
        for (int pressure = PRESSURE_STEP; pressure <= MOST_PRESSURE; pressure += PRESSURE_STEP) {
            for (int i = 0; i < Layout.MANY; i++) {
                if (!trial.become(i)) {
                    continue;
                }
                flows.run(trial, feedWater, feedSalt, pressure);
                long power = powerAt(pressure);
                if (power < leastPower && suits(want, quality)) {
                    leastPower = power;
                    best = 1000L * pressure + trial.digits();
                }
            }
        }
        return best;
    }

    // ---- hours

    public long hour(int hour, int what, int v) {
        if (outside(hour, 0, Hours.MANY - 1) || outside(what, 0, 1) || outside(v, 0, Hours.mostOf(what))) {
            return BAD;
        }
        int[] row = hours.rowOf(what);
        int before = row[hour];
        row[hour] = v;
        return before;
    }

    public long lay(int what, int sheet) {
        if (outside(what, 0, 1) || outside(sheet, 0, 1)) {
            return BAD;
        }
        Sheet from = sheets[sheet];
        if (from.isMissing()) {
            return NOTHING;
        }
        int[] row = hours.rowOf(what);
        int most = Hours.mostOf(what);
        for (int i = 0; i < Hours.MANY; i++) {
            int v = from.has(i) ? from.places[i] : 0;
            row[i] = outside(v, 0, most) ? 0 : v;
        }
        return Math.min(from.size, Hours.MANY);
    }

    public long plan(int content) {
        if (outside(content, 0, rules[TANK])) {
            return BAD;
        }
        int best = hours.best(content, rules[TANK], rules[OUT]);
        return Hours.isPlan(best) ? Hours.costOf(best) : NO;
    }

    public long runs(int content) {
        if (outside(content, 0, rules[TANK])) {
            return BAD;
        }
        int best = hours.best(content, rules[TANK], rules[OUT]);
        return Hours.isPlan(best) ? Hours.bitsOf(best) : NO;
    }

    public long tank(int content, int hour) {
        if (outside(content, 0, rules[TANK]) || outside(hour, 0, Hours.MANY - 1)) {
            return BAD;
        }
        int best = hours.best(content, rules[TANK], rules[OUT]);
        if (!Hours.isPlan(best)) {
            return NO;
        }
        int held = content;
        for (int i = 0; i <= hour; i++) {
            held = hours.behind(i, held + (Hours.runsAt(best, i) ? rules[OUT] : 0), rules[TANK]);
        }
        return held;
    }

    // ---- probes, sheets

    public long joint(int vessel, int sheet, int off) {
        int first = outside(vessel, 0, 10 * STAGES) ? -1 : placeOf(10 * vessel);
        if (first < 0 || outside(sheet, 0, 1) || outside(off, 0, MOST_OFF)) {
            return BAD;
        }
        if (!layout.holdsSkin(first)) {
            return NO;
        }
        Sheet profile = sheets[sheet];
        if (profile.isMissing()) {
            return NOTHING;
        }
        letFlow();
        for (int i = 0; i < layout.inVessel && profile.has(i); i++) {
            if (profile.places[i] - flows.throughSalt[first + i] > off) {
                return i;
            }
        }
        return NONE;
    }

    public long sheet(int s, int n) {
        if (outside(s, 0, 1) || n > Sheet.MOST_PLACES) {
            return BAD;
        }
        if (n < 0) {
            return SIZE;
        }
        sheets[s].begin(n);
        return n;
    }

    public long mark(int s, int place, int v) {
        if (outside(s, 0, 1)) {
            return BAD;
        }
        if (sheets[s].isMissing()) {
            return NOTHING;
        }
        if (!sheets[s].has(place)) {
            return INDEX;
        }
        short before = sheets[s].places[place];
        sheets[s].places[place] = (short) v;
        return before;
    }

    public long copy(int from, int place, int to, int at, int many) {
        if (outside(from, 0, 1) || outside(to, 0, 1)) {
            return BAD;
        }
        if (sheets[from].isMissing() || sheets[to].isMissing()) {
            return NOTHING;
        }
        if (!sheets[from].hasRun(place, many) || !sheets[to].hasRun(at, many)) {
            return INDEX;
        }
        System.arraycopy(sheets[from].places, place, sheets[to].places, at, many);
        return many;
    }

    public long count(int what) {
        switch (what) {
            case 0: return layout.standing();
            case 1: return (long) layout.standing() * layout.inVessel;
            case 2: return daysGone;
            case 3: return (sheets[0].isMissing() ? 0 : 1) + (sheets[1].isMissing() ? 0 : 1);
            default: return BAD;
        }
    }

    // ---- what the calls share

    private static boolean outside(int v, int low, int high) {
        return v < low || v > high;
    }

    /** The place of the skin that the callers call 100 * stage, 10 * vessel and its number; -1 of what is none. */
    private static int placeOf(int skin) {
        if (skin < 0) {
            return -1;
        }
        int stage = skin / 100;
        int vessel = skin / 10 % 10;
        int number = skin % 10;
        if (stage >= STAGES || vessel >= VESSELS || number >= SKINS) {
            return -1;
        }
        return stage * IN_STAGE + vessel * SKINS + number;
    }

    private static int numberOf(int place) {
        return 100 * (place / IN_STAGE) + 10 * (place % IN_STAGE / SKINS) + place % SKINS;
    }

    private void letFlow() {
        flows.take(skins);
        flows.run(layout, feedWater, feedSalt, feedPressure);
    }

    /** Power of the flows that ran last, which began with this pressure. */
    private long powerAt(int pressure) {
        long spent = (long) pressure * feedWater / 100;
        long left = flows.stayPressure * flows.stayWater / 100;
        return spent - rules[GIVEN_BACK] * left / 100;
    }

    private boolean suits(int want, int quality) {
        return flows.sweetWater >= want
            && flows.sweetGrains <= quality * flows.sweetWater
            && flows.firstFailure(trial, rules[LEAST], rules[MOST]) == NONE;
    }

    private void passDay() {
        letFlow();
        daysGone++;
        int rate = Math.max(1, rules[RATE]);
        int washing = rules[WASHING];
        boolean washes = washing > 0 && daysGone % washing == 0;
        for (int place = 0; place < PLACES; place++) {
            if (layout.holdsSkin(place)) {
                skins.soil(place, flows.through[place] / rate);
                if (washes) {
                    skins.wash(place);
                }
            }
        }
    }

    /** Whether both stand and differ in what they do: skins that are alike can't make sweet water more. */
    private boolean isPair(int one, int two) {
        return layout.holdsSkin(one) && layout.holdsSkin(two) && !flows.areAlike(one, two);
    }

    private long sweetWaterIfChanged(int one, int two) {
        flows.exchange(one, two);
        flows.run(layout, feedWater, feedSalt, feedPressure);
        flows.exchange(one, two);
        return flows.sweetWater;
    }

    /** How many vessels stand in each stage, and how many skins in each of them. */
    private static final class Layout {
        private static final int CHOICES = VESSELS + 1;
        private static final int MANY = VESSELS * CHOICES * CHOICES;

        private final int[] vessels = {1, 0, 0};
        private int inVessel = 3;

        /** The vessels that there are in a stage: none behind a stage that has none. */
        int vesselsIn(int stage) {
            for (int i = 0; i < stage && i < STAGES; i++) {
                if (vessels[i] == 0) {
                    return 0;
                }
            }
            return stage < 0 || stage >= STAGES ? 0 : vessels[stage];
        }

        int standing() {
            int sum = 0;
            for (int stage = 0; stage < STAGES; stage++) {
                sum += vesselsIn(stage);
            }
            return sum;
        }

        boolean holdsSkin(int place) {
            return place % SKINS < inVessel && place % IN_STAGE / SKINS < vesselsIn(place / IN_STAGE);
        }

        /** Becomes the layout with this number, in the order by stages; false, if a stage would stand behind none. */
        boolean become(int number) {
            vessels[0] = 1 + number / (CHOICES * CHOICES);
            vessels[1] = number / CHOICES % CHOICES;
            vessels[2] = number % CHOICES;
            return vessels[1] > 0 || vessels[2] == 0;
        }

        int digits() {
            return 100 * vessels[0] + 10 * vessels[1] + vessels[2];
        }
    }

    /** Kind and foulness of the skins at all places. */
    private static final class Skins {
        private static final int MOST_FOUL = 90;
        private static final int[] PASS_OF_KIND = {40, 30, 60, 20};
        private static final int[] LEAK_OF_KIND = {10, 5, 25, 2};
        private static final int[] KIND_ABOVE = {0, 0, 0, 1};

        private final int[] kinds = new int[PLACES];
        private final int[] fouls = new int[PLACES];

        int passAt(int place) {
            int pass = PASS_OF_KIND[kinds[place]];
            return pass - pass * fouls[place] / 100;
        }

        int leakAt(int place) {
            return LEAK_OF_KIND[kinds[place]];
        }

        boolean isUnder(int place, int kind) {
            int own = kinds[place];
            return kind == 0 || kind == own || kind == KIND_ABOVE[own];
        }

        int renew(int place, int kind) {
            int before = fouls[place];
            kinds[place] = kind;
            fouls[place] = 0;
            return before;
        }

        void exchange(int one, int two) {
            int kind = kinds[one];
            int foul = fouls[one];
            kinds[one] = kinds[two];
            fouls[one] = fouls[two];
            kinds[two] = kind;
            fouls[two] = foul;
        }

        void soil(int place, long more) {
            fouls[place] = (int) Math.min(MOST_FOUL, fouls[place] + more);
        }

        void wash(int place) {
            fouls[place] /= 2;
        }
    }

    /** What each skin gets and lets through; the rows are made once and every run writes them anew. */
    private static final class Flows {
        private final int[] pass = new int[PLACES];
        private final int[] leak = new int[PLACES];
        private final long[] water = new long[PLACES];
        private final long[] grains = new long[PLACES];
        private final long[] pressure = new long[PLACES];
        private final long[] through = new long[PLACES];
        private final long[] throughSalt = new long[PLACES];
        private final long[] throughGrains = new long[PLACES];
        private long stayWater = 0;
        private long stayGrains = 0;
        private long stayPressure = 0;
        private long sweetWater = 0;
        private long sweetGrains = 0;

        static long saltOf(long water, long grains) {
            return water == 0 ? 0 : grains / water;
        }

        void take(Skins skins) {
            for (int place = 0; place < PLACES; place++) {
                pass[place] = skins.passAt(place);
                leak[place] = skins.leakAt(place);
            }
        }

        boolean areAlike(int one, int two) {
            return pass[one] == pass[two] && leak[one] == leak[two];
        }

        void exchange(int one, int two) {
            int heldPass = pass[one];
            int heldLeak = leak[one];
            pass[one] = pass[two];
            leak[one] = leak[two];
            pass[two] = heldPass;
            leak[two] = heldLeak;
        }

        void run(Layout layout, long feedWater, long feedSalt, long feedPressure) {
            stayWater = feedWater;
            stayGrains = feedWater * feedSalt;
            stayPressure = feedPressure;
            for (int stage = 0; stage < STAGES; stage++) {
                runStage(stage, layout.vesselsIn(stage), layout.inVessel);
            }
            // nothing is lost on the way, so what did not stay was let through
            sweetWater = feedWater - stayWater;
            sweetGrains = feedWater * feedSalt - stayGrains;
        }

        private void runStage(int stage, int vessels, int inVessel) {
            if (vessels < 1) {
                return;
            }
            long each = stayWater / vessels;
            long over = stayWater % vessels;
            long salt = saltOf(stayWater, stayGrains);
            long grainsOver = stayGrains - stayWater * salt;
            stayWater = 0;
            stayGrains = 0;
            for (int vessel = 0; vessel < vessels; vessel++) {
                long w = vessel < over ? each + 1 : each;
                long g = vessel == 0 ? w * salt + grainsOver : w * salt;
                runVessel(stage * IN_STAGE + vessel * SKINS, inVessel, w, g);
            }
            stayPressure = Math.max(0, stayPressure - 2 * inVessel);
        }

        private void runVessel(int first, int inVessel, long vesselWater, long vesselGrains) {
            long w = vesselWater;
            long g = vesselGrains;
            long p = stayPressure;
            for (int place = first; place < first + inVessel && place < PLACES; place++) {
                water[place] = w;
                grains[place] = g;
                pressure[place] = p;
                long salt = saltOf(w, g);
                long push = Math.max(0, p - salt / 100);
                through[place] = Math.min(w, push * pass[place] / 100);
                throughSalt[place] = salt * leak[place] / 1000;
                throughGrains[place] = through[place] * throughSalt[place];
                w -= through[place];
                g -= throughGrains[place];
                p = Math.max(0, p - 2);
            }
            stayWater += w;
            stayGrains += g;
        }

        long firstFailure(Layout layout, int least, int most) {
            for (int place = 0; place < PLACES; place++) {
                if (layout.holdsSkin(place)) {
                    if (water[place] - through[place] < least) {
                        return 10L * numberOf(place) + 1;
                    }
                    if (through[place] > most) {
                        return 10L * numberOf(place) + 2;
                    }
                }
            }
            return NONE;
        }
    }

    /**
     * Prices and needs of the hours, and the search for the plan. A plan is one number: its cost above twelve bits,
     * the first hour's bit the highest, so that the least number is the cheapest plan and of several the first.
     */
    private static final class Hours {
        private static final int MANY = 12;
        private static final int MOST_PRICE = 99;
        private static final int MOST_NEED = 999;
        private static final int MOST_CONTENT = 200;
        private static final int NO_PLAN = 1 << 30;

        private final int[] prices = new int[MANY];
        private final int[] needs = new int[MANY];
        private final int[] now = new int[MOST_CONTENT + 1];
        private final int[] later = new int[MOST_CONTENT + 1];

        static int mostOf(int what) {
            return what == 0 ? MOST_PRICE : MOST_NEED;
        }

        int[] rowOf(int what) {
            return what == 0 ? prices : needs;
        }

        static boolean isPlan(int found) {
            return found < NO_PLAN;
        }

        static int costOf(int found) {
            return found >> MANY;
        }

        static boolean runsAt(int found, int hour) {
            return (found >> (MANY - 1 - hour) & 1) == 1;
        }

        static int bitsOf(int found) {
            int bits = 0;
            for (int hour = 0; hour < MANY; hour++) {
                bits |= runsAt(found, hour) ? 1 << hour : 0;
            }
            return bits;
        }

        /** What the tank holds behind an hour in which there was so much; below 0, if the need was not met. */
        int behind(int hour, int there, int holds) {
            return Math.min(holds, there - needs[hour]);
        }

        /** The plan that begins with a content: from the last hour back, the best one for each content. */
        int best(int content, int holds, int out) {
            Arrays.fill(later, 0);
            for (int hour = MANY - 1; hour >= 0; hour--) {
                int running = (prices[hour] << MANY) + (1 << (MANY - 1 - hour));
                for (int c = 0; c <= holds && c <= MOST_CONTENT; c++) {
                    int idle = laterAt(behind(hour, c, holds));
                    int run = laterAt(behind(hour, c + out, holds)) + running;
                    now[c] = Math.min(NO_PLAN, Math.min(idle, run));
                }
                System.arraycopy(now, 0, later, 0, MOST_CONTENT + 1);
            }
            return laterAt(content);
        }

        private int laterAt(int content) {
            return content < 0 || content > MOST_CONTENT ? NO_PLAN : later[content];
        }
    }

    /** A row of shorts, made once with all places it may ever have. */
    private static final class Sheet {
        private static final int MOST_PLACES = 24;
        private static final int MISSING = -1;

        private final short[] places = new short[MOST_PLACES];
        private int size = MISSING;

        boolean isMissing() {
            return size == MISSING;
        }

        void begin(int n) {
            Arrays.fill(places, (short) 0);
            size = n;
        }

        boolean has(int place) {
            return place >= 0 && place < size;
        }

        boolean hasRun(int first, int many) {
            return first >= 0 && many >= 0 && first <= size - many;
        }
    }
}
