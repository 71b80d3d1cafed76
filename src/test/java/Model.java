import java.util.ArrayList;
import java.util.Arrays;
import java.util.List;

/**
 * The document once more, written as plainly as it reads and with no thought of speed: every search looks at
 * everything there is. The random test holds the class against it.
 */
final class Model {
    static final long BAD = -9000000000000000001L;
    static final long NO = -9000000000000000002L;
    static final long NONE = -9000000000000000005L;
    static final long NOTHING = -9000000000000000011L;
    static final long INDEX = -9000000000000000013L;
    static final long SIZE = -9000000000000000014L;

    static final class Skin {
        int kind = 0;
        int foul = 0;

        Skin() {
        }

        Skin(Skin other) {
            kind = other.kind;
            foul = other.foul;
        }

        long pass() {
            long full;
            if (kind == 0) {
                full = 40;
            } else if (kind == 1) {
                full = 30;
            } else if (kind == 2) {
                full = 60;
            } else {
                full = 30 - 10;
            }
            return full - full * foul / 100;
        }

        long leak() {
            return kind == 0 ? 10 : kind == 1 ? 5 : kind == 2 ? 25 : 5 - 3;
        }
    }

    /** What one skin got and let through in one run. */
    record Passed(int skin, long water, long grains, long pressure, long through, long throughGrains) {
        long salt() {
            return water == 0 ? 0 : grains / water;
        }
    }

    /** One run of the whole plant. */
    static final class Run {
        final List<Passed> passed = new ArrayList<>();
        long sweetWater = 0;
        long sweetGrains = 0;
        long brineWater;
        long brineGrains;
        long brinePressure;

        Passed of(int skin) {
            for (Passed p : passed) {
                if (p.skin() == skin) {
                    return p;
                }
            }
            return null;
        }
    }

    final Skin[] skins = new Skin[300];
    final int[] vessels = {1, 0, 0};
    int length = 3;
    long water = 1000;
    long salt = 3000;
    long pressure = 60;
    final int[] rules = {0, 9999, 0, 100, 0, 100, 10};
    int days = 0;
    final int[][] hours = new int[2][12];
    final short[][] sheets = new short[2][];

    Model() {
        for (int i = 0; i < skins.length; i++) {
            skins[i] = new Skin();
        }
    }

    static boolean isSkin(int skin) {
        return skin >= 0 && skin / 100 <= 2 && skin / 10 % 10 <= 3 && skin % 10 <= 5;
    }

    /** The skins that there are, as 100 * stage, 10 * vessel and number, in order. */
    List<Integer> standing() {
        List<Integer> all = new ArrayList<>();
        for (int stage = 0; stage < 3 && vessels[stage] > 0; stage++) {
            for (int vessel = 0; vessel < vessels[stage]; vessel++) {
                for (int i = 0; i < length; i++) {
                    all.add(100 * stage + 10 * vessel + i);
                }
            }
        }
        return all;
    }

    Run run(int[] counts, long feedPressure) {
        Run run = new Run();
        long w = water;
        long g = water * salt;
        long p = feedPressure;
        for (int stage = 0; stage < 3; stage++) {
            if (counts[stage] == 0) {
                break;
            }
            long[] vesselWater = new long[counts[stage]];
            long[] vesselGrains = new long[counts[stage]];
            Arrays.fill(vesselWater, w / counts[stage]);
            for (int i = 0; i < w - w / counts[stage] * counts[stage]; i++) {
                vesselWater[i]++;
            }
            long left = g;
            for (int i = 0; i < counts[stage]; i++) {
                vesselGrains[i] = w == 0 ? 0 : vesselWater[i] * (g / w);
                left -= vesselGrains[i];
            }
            vesselGrains[0] += left;
            w = 0;
            g = 0;
            for (int v = 0; v < counts[stage]; v++) {
                long vw = vesselWater[v];
                long vg = vesselGrains[v];
                long vp = p;
                for (int i = 0; i < length; i++) {
                    int number = 100 * stage + 10 * v + i;
                    long s = vw == 0 ? 0 : vg / vw;
                    long push = vp - s / 100;
                    if (push < 0) {
                        push = 0;
                    }
                    long t = push * skins[number].pass() / 100;
                    if (t > vw) {
                        t = vw;
                    }
                    long tg = t * (s * skins[number].leak() / 1000);
                    run.passed.add(new Passed(number, vw, vg, vp, t, tg));
                    run.sweetWater += t;
                    run.sweetGrains += tg;
                    vw -= t;
                    vg -= tg;
                    vp = vp < 2 ? 0 : vp - 2;
                }
                w += vw;
                g += vg;
            }
            p = p < 2L * length ? 0 : p - 2L * length;
        }
        run.brineWater = w;
        run.brineGrains = g;
        run.brinePressure = p;
        return run;
    }

    Run run() {
        return run(vessels, pressure);
    }

    long power(Run run, long feedPressure) {
        return feedPressure * water / 100 - rules[2] * (run.brinePressure * run.brineWater / 100) / 100;
    }

    long failure(Run run) {
        for (Passed p : run.passed) {
            if (p.water() - p.through() < rules[0]) {
                return 10 * p.skin() + 1;
            }
            if (p.through() > rules[1]) {
                return 10 * p.skin() + 2;
            }
        }
        return NONE;
    }

    long stage(int stage, int n) {
        if (stage < 0 || stage > 2 || n < 0 || n > 4 || stage == 0 && n == 0) {
            return BAD;
        }
        long was = vessels[stage];
        vessels[stage] = n;
        return was;
    }

    long length(int n) {
        if (n < 1 || n > 6) {
            return BAD;
        }
        long was = length;
        length = n;
        return was;
    }

    long fresh(int skin, int kind) {
        if (!isSkin(skin) || kind < 0 || kind > 3) {
            return BAD;
        }
        long was = skins[skin].foul;
        skins[skin].foul = 0;
        skins[skin].kind = kind;
        return was;
    }

    long told(int skin, int what) {
        if (!isSkin(skin) || what < 0 || what > 3) {
            return BAD;
        }
        Skin s = skins[skin];
        return what == 0 ? s.kind : what == 1 ? s.foul : what == 2 ? s.pass() : s.leak();
    }

    long isOf(int skin, int kind) {
        if (!isSkin(skin) || kind < 0 || kind > 3) {
            return BAD;
        }
        int own = skins[skin].kind;
        boolean is = kind == 0 || kind == 1 && (own == 1 || own == 3) || kind == 2 && own == 2 || kind == 3 && own == 3;
        return is ? 1 : 0;
    }

    long feed(int newWater, int newSalt, int newPressure) {
        if (newWater < 0 || newWater > 20000 || newSalt < 0 || newSalt > 60000 || newPressure < 0 || newPressure > 900) {
            return BAD;
        }
        water = newWater;
        salt = newSalt;
        pressure = newPressure;
        return 0;
    }

    long change(int skin, int other) {
        if (!isSkin(skin) || !isSkin(other) || skin == other) {
            return BAD;
        }
        Skin held = skins[skin];
        skins[skin] = skins[other];
        skins[other] = held;
        return 0;
    }

    long flow(int skin, int what) {
        if (!isSkin(skin) || what < 0 || what > 4) {
            return BAD;
        }
        Passed p = run().of(skin);
        if (p == null) {
            return NO;
        }
        return new long[] {p.water(), p.grains(), p.pressure(), p.through(), p.throughGrains()}[what];
    }

    long sweet(int what) {
        if (what < 0 || what > 2) {
            return BAD;
        }
        Run r = run();
        return new long[] {r.sweetWater, r.sweetGrains, r.sweetWater == 0 ? 0 : r.sweetGrains / r.sweetWater}[what];
    }

    long brine(int what) {
        if (what < 0 || what > 2) {
            return BAD;
        }
        Run r = run();
        return new long[] {r.brineWater, r.brineGrains, r.brinePressure}[what];
    }

    long power() {
        return power(run(), pressure);
    }

    long failure() {
        return failure(run());
    }

    long rule(int which, int v) {
        int[] low = {0, 0, 0, 1, 0, 0, 0};
        int[] high = {9999, 9999, 100, 1000, 30, 200, 200};
        if (which < 0 || which > 6 || v < low[which] || v > high[which]) {
            return BAD;
        }
        long was = rules[which];
        rules[which] = v;
        return was;
    }

    long days(int n) {
        if (n < 1 || n > 60 || days + n > 1000) {
            return BAD;
        }
        for (int i = 0; i < n; i++) {
            days++;
            for (Passed p : run().passed) {
                Skin s = skins[p.skin()];
                s.foul = (int) Math.min(90, s.foul + p.through() / rules[3]);
            }
            if (rules[4] != 0 && days % rules[4] == 0) {
                for (int skin : standing()) {
                    skins[skin].foul /= 2;
                }
            }
        }
        return days;
    }

    long foul(int what) {
        if (what < 0 || what > 2) {
            return BAD;
        }
        long sum = 0;
        long most = -1;
        long first = -1;
        for (int skin : standing()) {
            sum += skins[skin].foul;
            if (skins[skin].foul > most) {
                most = skins[skin].foul;
                first = skin;
            }
        }
        return what == 0 ? sum : what == 1 ? most : first;
    }

    long swap() {
        List<Integer> all = standing();
        long most = run().sweetWater;
        long best = NONE;
        for (int i = 0; i < all.size(); i++) {
            for (int j = i + 1; j < all.size(); j++) {
                change(all.get(i), all.get(j));
                long got = run().sweetWater;
                change(all.get(i), all.get(j));
                if (got > most) {
                    most = got;
                    best = 1000L * all.get(i) + all.get(j);
                }
            }
        }
        return best;
    }

    long array(int want, int quality) {
        if (want < 0 || want > 99999 || quality < 0 || quality > 60000) {
            return BAD;
        }
        long best = NO;
        long least = 0;
        for (int p = 100; p <= 900; p += 100) {
            for (int a = 1; a <= 4; a++) {
                for (int b = 0; b <= 4; b++) {
                    for (int c = 0; c <= (b == 0 ? 0 : 4); c++) {
                        Run r = run(new int[] {a, b, c}, p);
                        boolean fits = failure(r) == NONE && r.sweetWater >= want && r.sweetGrains <= quality * r.sweetWater;
                        if (fits && (best == NO || power(r, p) < least)) {
                            best = 1000L * p + 100 * a + 10 * b + c;
                            least = power(r, p);
                        }
                    }
                }
            }
        }
        return best;
    }

    long hour(int hour, int what, int v) {
        if (hour < 0 || hour > 11 || what < 0 || what > 1 || v < 0 || v > (what == 0 ? 99 : 999)) {
            return BAD;
        }
        long was = hours[what][hour];
        hours[what][hour] = v;
        return was;
    }

    long lay(int what, int sheet) {
        if (what < 0 || what > 1 || sheet < 0 || sheet > 1) {
            return BAD;
        }
        if (sheets[sheet] == null) {
            return NOTHING;
        }
        int taken = 0;
        for (int i = 0; i < 12; i++) {
            hours[what][i] = 0;
            if (i < sheets[sheet].length) {
                taken++;
                hour(i, what, sheets[sheet][i]);
            }
        }
        return taken;
    }

    /** The tank behind each hour, or null if a need is not met. */
    int[] tanks(int content, int bits) {
        int[] held = new int[12];
        int now = content;
        for (int h = 0; h < 12; h++) {
            now += (bits >> h & 1) == 1 ? rules[6] : 0;
            now -= hours[1][h];
            if (now < 0) {
                return null;
            }
            now = Math.min(now, rules[5]);
            held[h] = now;
        }
        return held;
    }

    int cost(int bits) {
        int sum = 0;
        for (int h = 0; h < 12; h++) {
            sum += (bits >> h & 1) == 1 ? hours[0][h] : 0;
        }
        return sum;
    }

    /** Whether the one plan does not run at the first hour at which they differ. */
    static boolean isEarlier(int one, int two) {
        int differ = one ^ two;
        return differ != 0 && (one & Integer.lowestOneBit(differ)) == 0;
    }

    int bestPlan(int content) {
        int best = -1;
        for (int bits = 0; bits < 4096; bits++) {
            if (tanks(content, bits) == null) {
                continue;
            }
            if (best < 0 || cost(bits) < cost(best) || cost(bits) == cost(best) && isEarlier(bits, best)) {
                best = bits;
            }
        }
        return best;
    }

    long plan(int content) {
        if (content < 0 || content > rules[5]) {
            return BAD;
        }
        int best = bestPlan(content);
        return best < 0 ? NO : cost(best);
    }

    long runs(int content) {
        if (content < 0 || content > rules[5]) {
            return BAD;
        }
        int best = bestPlan(content);
        return best < 0 ? NO : best;
    }

    long tank(int content, int hour) {
        if (content < 0 || content > rules[5] || hour < 0 || hour > 11) {
            return BAD;
        }
        int best = bestPlan(content);
        return best < 0 ? NO : tanks(content, best)[hour];
    }

    long joint(int vessel, int sheet, int off) {
        if (vessel < 0 || vessel / 10 > 2 || vessel % 10 > 3 || sheet < 0 || sheet > 1 || off < 0 || off > 9999) {
            return BAD;
        }
        Run r = run();
        if (r.of(10 * vessel) == null) {
            return NO;
        }
        if (sheets[sheet] == null) {
            return NOTHING;
        }
        for (int i = 0; i < Math.min(length, sheets[sheet].length); i++) {
            long should = r.of(10 * vessel + i).salt() * skins[10 * vessel + i].leak() / 1000;
            if (sheets[sheet][i] > should + off) {
                return i;
            }
        }
        return NONE;
    }

    long sheet(int s, int n) {
        if (s < 0 || s > 1 || n > 24) {
            return BAD;
        }
        if (n < 0) {
            return SIZE;
        }
        sheets[s] = new short[n];
        return n;
    }

    long mark(int s, int place, int v) {
        if (s < 0 || s > 1) {
            return BAD;
        }
        if (sheets[s] == null) {
            return NOTHING;
        }
        if (place < 0 || place >= sheets[s].length) {
            return INDEX;
        }
        long was = sheets[s][place];
        sheets[s][place] = (short) v;
        return was;
    }

    long copy(int from, int place, int to, int at, int many) {
        if (from < 0 || from > 1 || to < 0 || to > 1) {
            return BAD;
        }
        if (sheets[from] == null || sheets[to] == null) {
            return NOTHING;
        }
        if (many < 0 || place < 0 || at < 0
            || (long) place + many > sheets[from].length || (long) at + many > sheets[to].length) {
            return INDEX;
        }
        short[] were = Arrays.copyOfRange(sheets[from], place, place + many);
        for (int i = 0; i < many; i++) {
            sheets[to][at + i] = were[i];
        }
        return many;
    }

    long count(int what) {
        if (what < 0 || what > 3) {
            return BAD;
        }
        int skinsThere = standing().size();
        return new long[] {skinsThere / length, skinsThere, days,
            (sheets[0] == null ? 0 : 1) + (sheets[1] == null ? 0 : 1)}[what];
    }
}
