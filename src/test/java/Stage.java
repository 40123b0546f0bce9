/**
 * An object that is set for a script: columns A of wholes, B of reals, C of rows, D of anys, and E to H the same again,
 * which scripts may not write. Object 0 holds A 4, B 2.5 and C 0 7 0; all else is missing.
 */
final class Stage {
    static final int UNKNOWN = ScriptLanguage.UNKNOWN, OUTSIDE = ScriptLanguage.OUTSIDE, STATE = ScriptLanguage.STATE;
    static final int ROOM = ScriptLanguage.ROOM, NONE = ScriptLanguage.NONE;
    static final int LEAST = Integer.MIN_VALUE, GREATEST = Integer.MAX_VALUE;
    static final int ARITHMETIC = 1, INDEX = 2, NULL = 3, CAST = 4, SIZE = 5, SPENT = 6, TOO_LONG = 7;

    private final Due due;
    ScriptLanguage x;

    Stage(Due due) {
        this.due = due;
    }

    static ScriptLanguage set() {
        ScriptLanguage x = new ScriptLanguage();
        fill(x);
        return x;
    }

    static void fill(ScriptLanguage x) {
        for (int i = 0; i < 8; i++) {
            x.column('A' + i, i % 4, i < 4);
        }
        x.cell(0, 0, 4);
        x.cell(0, 1, 2500);
        x.cellRow(0, 2, 3);
        x.cellPut(0, 2, 1, 7);
    }

    /** The text has no fault and so many stats. */
    void reads(String text, int stats) {
        x = set();
        due.is("read() of " + text, Texts.read(x, text), stats);
        due.is("fault(0) of " + text, x.fault(0), 0);
        due.is("fault(1) of " + text, x.fault(1), NONE);
        due.is("count(4) of " + text, x.count(4), 1);
    }

    void faults(String text, int fault, int place) {
        x = set();
        due.is("read() of " + text, Texts.read(x, text), -10 - fault);
        due.is("fault(0) of " + text, x.fault(0), fault);
        due.is("fault(1) of " + text, x.fault(1), place);
        due.is("count(4) of " + text, x.count(4), 0);
    }

    /** The script is read, but not run. */
    void script(String text) {
        x = set();
        due.is("read() of " + text + ", a fault at", Texts.read(x, text) < 0 ? x.fault(1) : NONE, NONE);
    }

    void ends(String text) {
        script(text);
        due.is("run() of " + text, x.run(0, 400), 0);
        due.is("place() of " + text, x.place(), NONE);
    }

    void gives(String text, int whole) {
        script(text);
        givesNow(text, whole);
    }

    /** As gives(), with the object as it is. */
    void givesNow(String text, int whole) {
        due.is("run() of " + text, x.run(0, 400), 2);
        due.is("gave() of " + text, x.gave(), whole);
        due.isReal("gaveReal() of " + text, x.gaveReal(), 0.0);
        due.is("place() of " + text, x.place(), NONE);
    }

    void givesReal(String text, double real) {
        script(text);
        due.is("run() of " + text, x.run(0, 400), 3);
        due.isReal("gaveReal() of " + text, x.gaveReal(), real);
        due.is("gave() of " + text, x.gave(), 0);
        due.is("place() of " + text, x.place(), NONE);
    }

    void fails(String text, int what, int place) {
        script(text);
        failsNow(text, 400, what, place);
    }

    /** As fails(), with the object as it is. */
    void failsNow(String text, int steps, int what, int place) {
        due.is("run() of " + text + " with " + steps, x.run(0, steps), -1 - what);
        due.is("place() of " + text + " with " + steps, x.place(), place);
        due.is("gave() of " + text, x.gave(), 0);
        due.isReal("gaveReal() of " + text, x.gaveReal(), 0.0);
    }
}
