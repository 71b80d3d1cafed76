import java.util.List;

/**
 * Boundary cases, each with the document's sentence that names it. Every run is on a new object; behind each call
 * that is refused, and behind each that only asks, the whole object is looked at, as long as its 512 calls allow:
 * nothing of it may have changed.
 */
final class Edges {
    private static final int MOST_CALLS = 512;
    private static final long[] OUTERMOST = {Integer.MIN_VALUE, Integer.MAX_VALUE};

    /** A plant in which nothing is as at first, so that a change would be seen wherever it fell. */
    static final String RICH = """
        stage(0, 2)
        stage(1, 3)
        stage(2, 1)
        length(4)
        feed(900, 700, 200)
        fresh(0, 1)
        fresh(1, 2)
        fresh(110, 3)
        fresh(235, 2)
        rule(0, 1)
        rule(1, 9000)
        rule(2, 30)
        rule(3, 7)
        rule(4, 5)
        rule(5, 150)
        rule(6, 20)
        days(3)
        hour(0, 0, 9)
        hour(3, 1, 40)
        hour(11, 0, 98)
        hour(11, 1, 60)
        sheet(0, 5)
        mark(0, 0, 7)
        mark(0, 4, -3)
        sheet(1, 14)
        mark(1, 13, 500)
        """;

    private final Check check = new Check();
    private int tests = 0;

    /** A run of calls, each line with its answer; the sentence is broken if one of them is not as due. */
    void edge(int promise, String sentence, String lines) {
        tests++;
        String name = "promise " + promise + ", \"" + sentence + "\": ";
        List<Call> calls = Call.of(lines);
        if (calls.size() > MOST_CALLS || calls.stream().allMatch(c -> c.due() == null)) {
            throw new IllegalArgumentException(name + "a test of too many calls, or of nothing");
        }
        SaltPlant x = new SaltPlant();
        for (int i = 0; i < calls.size(); i++) {
            Call call = calls.get(i);
            long got = call.on(x);
            if (call.due() != null) {
                check.due(name + call.text(), got, call.due());
            }
            if (i + 1 + State.CALLS <= MOST_CALLS && (!call.isChange() || Call.isRefusal(got))) {
                check.same(name + call.text() + " changed the plant", after(calls, i + 1), after(calls, i));
            }
        }
    }

    private static String after(List<Call> calls, int many) {
        SaltPlant x = new SaltPlant();
        for (Call call : calls.subList(0, many)) {
            call.on(x);
        }
        return State.of(x);
    }

    /** Of one argument, written ? in the call, low .. high are taken and all beyond are BAD. */
    void range(int promise, String sentence, String call, int low, int high) {
        for (long v : new long[] {low, high}) {
            taken(promise, sentence, call.replace("?", Long.toString(v)));
        }
        for (long v : new long[] {low - 1L, high + 1L, OUTERMOST[0], OUTERMOST[1]}) {
            edge(promise, sentence, RICH + call.replace("?", Long.toString(v)) + " = BAD");
        }
    }

    private void taken(int promise, String sentence, String text) {
        tests++;
        SaltPlant x = new SaltPlant();
        Call.of(RICH).forEach(c -> c.on(x));
        long got = Call.of(text).get(0).on(x);
        check.due("promise " + promise + ", \"" + sentence + "\": whether " + text + " is BAD", got == SaltPlant.BAD ? 1 : 0, 0);
    }

    /** Of a skin, written ? in the call, those of all 3 by 4 by 6 are taken and no other number is. */
    void everySkin(int promise, String call) {
        everySkinBut(-1, promise, call);
    }

    /** Likewise, but for one skin that the call does not take besides. */
    void everySkinBut(int but, int promise, String call) {
        String sentence = "100 * stage, 10 * vessel and its number, of all 3 by 4 by 6";
        for (int skin = -20; skin <= 420; skin++) {
            String text = call.replace("?", Integer.toString(skin));
            if (skin >= 0 && skin / 100 < 3 && skin / 10 % 10 < 4 && skin % 10 < 6 && skin != but) {
                taken(promise, sentence, text);
            } else {
                edge(promise, sentence, RICH + text + " = BAD");
            }
        }
        for (String far : new String[] {"MIN", "MAX", "1000", "1005", "65536", "-65531"}) {
            edge(promise, sentence, RICH + call.replace("?", far) + " = BAD");
        }
    }

    void end() {
        System.out.print(tests + " boundary cases: ");
        check.end();
    }
}
