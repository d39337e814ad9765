/** Counts the answers that are not as due, and ends a test with exit code 1 if there was one. */
final class Due {
    private int wrong = 0;
    private int asked = 0;

    void is(String what, long got, long want) {
        asked++;
        if (got != want) {
            wrong++;
            System.out.println(what + " answered " + got + ", due is " + want);
        }
    }

    void yes(String what, boolean got) {
        is(what, got ? 1 : 0, 1);
    }

    void no(String what, boolean got) {
        is(what, got ? 1 : 0, 0);
    }

    int wrong() {
        return wrong;
    }

    void end() {
        System.out.println(asked + " answers, " + wrong + " not as due");
        if (wrong != 0) {
            System.exit(1);
        }
    }
}
