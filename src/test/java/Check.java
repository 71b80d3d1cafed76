/** Counts and prints the answers that are not the ones due. */
final class Check {
    private static final int MOST_PRINTED = 50;

    private int wrong = 0;
    private int looked = 0;

    void due(String call, long got, long want) {
        looked++;
        if (got != want) {
            fault(call + " answered " + got + ", due is " + want);
        }
    }

    void same(String fault, String got, String want) {
        looked++;
        if (!got.equals(want)) {
            fault(fault + ":\n  " + got + "\n  due is\n  " + want);
        }
    }

    private void fault(String text) {
        wrong++;
        if (wrong <= MOST_PRINTED) {
            System.out.println(text);
        }
    }

    boolean failed() {
        return wrong > 0;
    }

    void end() {
        System.out.println(looked + " answers looked at, " + wrong + " not as due");
        if (wrong > 0) {
            System.exit(1);
        }
    }
}
