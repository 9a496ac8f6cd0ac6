/** Counts the answers that are not the ones due, and ends a test. */
final class Check {
    private int asked = 0;
    private int wrong = 0;

    void due(String call, long got, long want) {
        asked++;
        if (got != want) {
            wrong++;
            System.out.println(call + " answered " + got + ", due is " + want);
        }
    }

    void holds(String what, boolean is) {
        asked++;
        if (!is) {
            wrong++;
            System.out.println(what + " does not hold");
        }
    }

    boolean anyWrong() {
        return wrong > 0;
    }

    void end() {
        System.out.println(asked + " answers looked at, " + wrong + " wrong");
        if (wrong > 0 || asked == 0) {
            System.exit(1);
        }
    }
}
