/** Counts and prints the answers that are not the ones due. */
final class Check {
    private int wrong = 0;
    private int looked = 0;

    void due(String call, long got, long want) {
        looked++;
        if (got != want) {
            wrong++;
            if (wrong <= 50) {
                System.out.println(call + " answered " + got + ", due is " + want);
            }
        }
    }

    boolean failed() {
        return wrong > 0;
    }

    void end() {
        System.out.println(looked + " answers looked at, " + wrong + " not as due");
        if (wrong > 0) {
            System.exit(1);
        }
    }
}
