/** Counts the answers that are not as due, and tells them. */
final class Due {
    private final String test;
    private String sentence = "";
    private int sentences;
    private int asked;
    private int wrong;

    Due(String test) {
        this.test = test;
    }

    /** The words of the document that the answers from here on hold up. */
    void sentence(String words) {
        sentence = " [" + words + "]";
        sentences++;
    }

    void is(String call, long got, long want) {
        asked++;
        if (got != want) {
            tell(call, String.valueOf(got), String.valueOf(want));
        }
    }

    /** To the last bit, so that 0.0 and -0.0 differ. */
    void isReal(String call, double got, double want) {
        asked++;
        if (Double.doubleToRawLongBits(got) != Double.doubleToRawLongBits(want)) {
            tell(call, String.valueOf(got), String.valueOf(want));
        }
    }

    void isText(String call, String got, String want) {
        asked++;
        if (!got.equals(want)) {
            tell(call, got, want);
        }
    }

    boolean allRight() {
        return wrong == 0;
    }

    void close() {
        String of = sentences == 0 ? "" : sentences + " sentences, ";
        System.out.println(test + ": " + of + asked + " answers, " + wrong + " not as due");
        if (wrong != 0) {
            System.exit(1);
        }
    }

    private void tell(String call, String got, String want) {
        wrong++;
        if (wrong <= 40) {
            System.out.println(test + sentence + ": " + call + " answered " + got + ", due is " + want);
        }
    }
}
