/** Counts the answers that are not as due, and tells them. */
final class Due {
    private final String test;
    private int asked;
    private int wrong;

    Due(String test) {
        this.test = test;
    }

    void is(String call, long got, long want) {
        asked++;
        if (got != want) {
            tell(call, String.valueOf(got), String.valueOf(want));
        }
    }

    /** To the last bit, so that 0.0 and -0.0 differ. */
    void isReal(String call, double got, double want) {
        asked++;
        if (Double.doubleToRawLongBits(got) != Double.doubleToRawLongBits(want)) {
            tell(call, String.valueOf(got), String.valueOf(want));
        }
    }

    boolean allRight() {
        return wrong == 0;
    }

    void close() {
        System.out.println(test + ": " + asked + " answers, " + wrong + " not as due");
        if (wrong != 0) {
            System.exit(1);
        }
    }

    private void tell(String call, String got, String want) {
        wrong++;
        if (wrong <= 40) {
            System.out.println(test + ": " + call + " answered " + got + ", due is " + want);
        }
    }
}
