/** Counts the answers that are not as due, and ends the test that asked for them. */
final class Due {
    private String part = "";
    private int asked = 0;
    private int wrong = 0;

    void begin(String name) {
        part = name;
    }

    void is(String call, double got, double want) {
        asked++;
        if (got != want) {
            wrong++;
            System.out.println(part + ": " + call + " answered " + got + ", due is " + want);
        }
    }

    void isTrue(String what, boolean holds) {
        asked++;
        if (!holds) {
            wrong++;
            System.out.println(part + ": " + what + " does not hold");
        }
    }

    int wrong() {
        return wrong;
    }

    void end() {
        System.out.println(asked + " answers, " + wrong + " not as due");
        if (wrong != 0 || asked == 0) {
            System.exit(1);
        }
    }
}
