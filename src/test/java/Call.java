import java.util.ArrayList;
import java.util.List;
import java.util.Map;

/** One call told as text, such as "stage(1, 2) = 0": its name, its arguments and the answer that is due. */
record Call(String text, String name, int[] args, Long due) {
    private static final Map<String, Long> NAMED = Map.of(
        "BAD", SaltPlant.BAD, "NO", SaltPlant.NO, "NONE", SaltPlant.NONE,
        "NOTHING", SaltPlant.NOTHING, "INDEX", SaltPlant.INDEX, "SIZE", SaltPlant.SIZE);

    /** The calls of a text, a line each; what stands behind # is for the reader, and a call without = is a set-up. */
    static List<Call> of(String lines) {
        List<Call> all = new ArrayList<>();
        for (String line : lines.split("\n")) {
            String told = line.replaceAll("#.*", "").trim();
            if (!told.isEmpty()) {
                all.add(one(told));
            }
        }
        return all;
    }

    private static Call one(String told) {
        String[] sides = told.split("=");
        String call = sides[0].trim();
        int open = call.indexOf('(');
        String inside = call.substring(open + 1, call.length() - 1).trim();
        String[] parts = inside.isEmpty() ? new String[0] : inside.split(",");
        int[] args = new int[parts.length];
        for (int i = 0; i < parts.length; i++) {
            args[i] = number(parts[i].trim());
        }
        Long due = sides.length < 2 ? null : answer(sides[1].trim());
        return new Call(call, call.substring(0, open), args, due);
    }

    private static int number(String word) {
        return switch (word) {
            case "MIN" -> Integer.MIN_VALUE;
            case "MAX" -> Integer.MAX_VALUE;
            default -> Integer.parseInt(word);
        };
    }

    private static long answer(String word) {
        return NAMED.containsKey(word) ? NAMED.get(word) : Long.parseLong(word);
    }

    /** Whether the document lets the call change something at all. */
    boolean isChange() {
        return switch (name) {
            case "stage", "length", "fresh", "feed", "change", "rule", "days", "hour", "lay", "sheet", "mark", "copy" -> true;
            default -> false;
        };
    }

    static boolean isRefusal(long answer) {
        return NAMED.containsValue(answer);
    }

    long on(SaltPlant x) {
        return switch (args.length) {
            case 0 -> none(x);
            case 1 -> one(x, args[0]);
            case 2 -> two(x, args[0], args[1]);
            case 3 -> three(x, args[0], args[1], args[2]);
            default -> x.copy(args[0], args[1], args[2], args[3], args[4]);
        };
    }

    private long none(SaltPlant x) {
        return switch (name) {
            case "power" -> x.power();
            case "failure" -> x.failure();
            case "swap" -> x.swap();
            default -> throw new IllegalArgumentException(text);
        };
    }

    private long one(SaltPlant x, int a) {
        return switch (name) {
            case "length" -> x.length(a);
            case "sweet" -> x.sweet(a);
            case "brine" -> x.brine(a);
            case "days" -> x.days(a);
            case "foul" -> x.foul(a);
            case "plan" -> x.plan(a);
            case "runs" -> x.runs(a);
            case "count" -> x.count(a);
            default -> throw new IllegalArgumentException(text);
        };
    }

    private long two(SaltPlant x, int a, int b) {
        return switch (name) {
            case "stage" -> x.stage(a, b);
            case "fresh" -> x.fresh(a, b);
            case "told" -> x.told(a, b);
            case "isOf" -> x.isOf(a, b);
            case "change" -> x.change(a, b);
            case "flow" -> x.flow(a, b);
            case "rule" -> x.rule(a, b);
            case "array" -> x.array(a, b);
            case "lay" -> x.lay(a, b);
            case "tank" -> x.tank(a, b);
            case "sheet" -> x.sheet(a, b);
            default -> throw new IllegalArgumentException(text);
        };
    }

    private long three(SaltPlant x, int a, int b, int c) {
        return switch (name) {
            case "feed" -> x.feed(a, b, c);
            case "hour" -> x.hour(a, b, c);
            case "joint" -> x.joint(a, b, c);
            case "mark" -> x.mark(a, b, c);
            default -> throw new IllegalArgumentException(text);
        };
    }
}
