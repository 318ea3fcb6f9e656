/** Counts answers that are not as due, and ends the test with exit code 1 if there was one. */
final class Check {
    private int asked = 0;
    private int wrong = 0;
    private String part = "";

    void begin(String name) {
        part = name;
    }

    void due(String call, long got, long want) {
        asked++;
        if (got != want) {
            tell(call + " answered " + got + ", due is " + want);
        }
    }

    void holds(String what, boolean is) {
        asked++;
        if (!is) {
            tell(what + " does not hold");
        }
    }

    int asked() {
        return asked;
    }

    private void tell(String text) {
        wrong++;
        if (wrong <= 50) {
            System.out.println(part + ": " + text);
        }
    }

    void finish() {
        System.out.println(asked + " answers looked at, " + wrong + " not as due");
        if (asked == 0 || wrong != 0) {
            System.exit(1);
        }
    }
}
