/** The edges of promises 1 "A new object", 22 count and 23 clear: a method for each sentence. */
public final class BeginningTest {
    private static final int NONE = Stage.NONE, UNKNOWN = Stage.UNKNOWN, OUTSIDE = Stage.OUTSIDE, STATE = Stage.STATE;
    private final Due due = new Due("BeginningTest");

    private BeginningTest() {
    }

    public static void main(String[] args) {
        BeginningTest test = new BeginningTest();
        test.noColumnsNoScript();
        test.apart();
        test.countOutside();
        test.countColumns();
        test.countBytes();
        test.countScript();
        test.howManyColumns();
        test.clearTwice();
        test.asAtTheBeginning();
        test.cellsAreGone();
        test.ruleIsOff();
        test.faultIsGone();
        test.latestRunIsGone();
        test.tapeIsGone();
        test.oldRowsDoNotShow();
        test.namesMayComeAgain();
        test.due.close();
    }

    private void noColumnsNoScript() {
        due.sentence("ScriptLanguage(): No COLUMNS, no script");
        ScriptLanguage x = new ScriptLanguage();
        for (int what = 0; what < 5; what++) {
            due.is("count(" + what + ")", x.count(what), 0);
        }
        due.is("run()", x.run(0, 1), STATE);
        due.is("holds()", x.holds(0, 0), UNKNOWN);
        due.is("end(0)", x.end(0), 0);
        due.is("end(1)", x.end(1), OUTSIDE);
        due.is("fault(0)", x.fault(0), 0);
        due.is("fault(1)", x.fault(1), NONE);
        due.is("gave()", x.gave(), 0);
        due.isReal("gaveReal()", x.gaveReal(), 0.0);
        due.is("place()", x.place(), NONE);
        due.is("taken()", x.taken(), 0);
        due.is("rule()", x.rule(true), 0);
    }

    private void apart() {
        due.sentence("A new object (has nothing of another)");
        ScriptLanguage x = Stage.set();
        Texts.read(x, "give 1;");
        x.run(0, 1);
        x.rule(true);
        ScriptLanguage y = new ScriptLanguage();
        due.is("count(0)", y.count(0), 0);
        due.is("count(4)", y.count(4), 0);
        due.is("gave()", y.gave(), 0);
        due.is("rule()", y.rule(false), 0);
        due.is("column()", y.column('A', 2, true), 0);
        due.is("holds()", y.holds(0, 0), NONE);
        y.cellRow(0, 0, 20);
        due.is("whole() of the first object", x.whole(0, 0), 4);
        due.is("rule() of the first object", x.rule(true), 1);
    }

    private void countOutside() {
        due.sentence("count: (what = 0) to (4). OUTSIDE");
        int[] wrong = {Stage.LEAST, -1, 5, 6, 256, Stage.GREATEST};
        ScriptLanguage x = Stage.set();
        for (int what : wrong) {
            due.is("count(" + what + ")", x.count(what), OUTSIDE);
        }
    }

    private void countColumns() {
        due.sentence("count: COLUMNS (what = 0)");
        ScriptLanguage x = new ScriptLanguage();
        for (int i = 0; i < 8; i++) {
            due.is("count(0)", x.count(0), i);
            x.column('H' - i, 3, false);
        }
        due.is("count(0)", x.count(0), 8);
        x.column('Z', 3, false);
        due.is("count(0) behind a ninth", x.count(0), 8);
    }

    private void countBytes() {
        due.sentence("count: bytes of THE TAPE (2)");
        ScriptLanguage x = new ScriptLanguage();
        for (int n = 0; n <= 100; n += 9) {
            Texts.put(x, Texts.times(" ", n));
            due.is("count(2)", x.count(2), n);
        }
        x.read();
        due.is("count(2) behind read()", x.count(2), 0);
    }

    private void countScript() {
        due.sentence("count: whether there is a script (4)");
        ScriptLanguage x = new ScriptLanguage();
        due.is("count(4) at first", x.count(4), 0);
        Texts.put(x, "stop;");
        due.is("count(4) of a tape that is not read", x.count(4), 0);
        x.read();
        due.is("count(4) behind read()", x.count(4), 1);
        x.run(0, 1);
        due.is("count(4) behind run()", x.count(4), 1);
        Texts.read(x, "A=1/0;");
        due.is("count(4) behind a FAULT", x.count(4), 0);
        x.column('A', 0, true);
        Texts.read(x, "A=1/0;");
        x.run(0, 9);
        due.is("count(4) behind a run() that FAILED", x.count(4), 1);
        x.column('B', 0, true);
        due.is("count(4) behind column()", x.count(4), 0);
        x.read();
        due.is("count(4) of an empty script", x.count(4), 1);
        x.clear();
        due.is("count(4) behind clear()", x.count(4), 0);
    }

    private void howManyColumns() {
        due.sentence("clear: how many COLUMNS there were");
        for (int n = 0; n <= 9; n++) {
            ScriptLanguage x = new ScriptLanguage();
            for (int i = 0; i < n; i++) {
                x.column('A' + i, 0, true);
            }
            due.is("clear() of " + n, x.clear(), Math.min(n, 8));
            due.is("count(0)", x.count(0), 0);
        }
    }

    private void clearTwice() {
        due.sentence("clear: how many COLUMNS there were (none, the second time)");
        ScriptLanguage x = Stage.set();
        due.is("clear()", x.clear(), 8);
        due.is("clear() again", x.clear(), 0);
        x.column('Q', 1, true);
        due.is("clear() behind a COLUMN", x.clear(), 1);
    }

    private void asAtTheBeginning() {
        due.sentence("clear: All is as at the beginning");
        String beginning = Probe.all(x -> { });
        due.isText("behind clear() of a new object", Probe.all(x -> x.clear()), beginning);
        due.isText("behind clear() of one with all", Probe.all(BeginningTest::allAndClear), beginning);
        Probe.Calls fresh = BeginningTest::all;
        Probe.Calls again = x -> {
            allAndClear(x);
            all(x);
        };
        due.isText("the same calls behind clear()", Probe.all(again), Probe.all(fresh));
    }

    /** Some fifty calls that touch all there is. */
    private static void all(ScriptLanguage x) {
        x.column('A', 0, true);
        x.column('D', 3, true);
        x.column('C', 2, false);
        x.cell(0, 0, 3);
        x.cell(19, 1, 3);
        x.cellRow(0, 2, 20);
        x.cellPut(0, 2, 19, 5);
        x.rule(true);
        Texts.read(x, "D=C;give 2.5;");
        x.run(0, 9);
        Texts.read(x, "give 8;");
        x.run(0, 9);
        Texts.read(x, "A=1/0;");
        x.run(0, 9);
        Texts.put(x, "stop;");
    }

    private static void allAndClear(ScriptLanguage x) {
        all(x);
        x.clear();
    }

    private void cellsAreGone() {
        due.sentence("clear: All is as at the beginning (CELLS)");
        ScriptLanguage x = Stage.set();
        x.cell(19, 3, 1);
        x.clear();
        due.is("count(1)", x.count(1), 0);
        due.is("holds()", x.holds(0, 0), UNKNOWN);
        for (int c = 0; c < 8; c++) {
            x.column('A' + c, 3, true);
            due.is("holds(0, " + c + ")", x.holds(0, c), NONE);
            due.is("holds(19, " + c + ")", x.holds(19, c), NONE);
            due.is("at(0, " + c + ")", x.at(0, c, 0), STATE);
        }
        due.is("count(1)", x.count(1), 0);
    }

    private void ruleIsOff() {
        due.sentence("clear: All is as at the beginning (THE RULE)");
        ScriptLanguage x = Stage.set();
        x.rule(true);
        x.clear();
        x.column('A', 0, true);
        Texts.read(x, "give A;");
        due.is("run()", x.run(0, 9), -4);
        due.is("rule()", x.rule(true), 0);
    }

    private void faultIsGone() {
        due.sentence("clear: All is as at the beginning (the FAULT)");
        ScriptLanguage x = new ScriptLanguage();
        Texts.read(x, " A=1;");
        due.is("fault(1)", x.fault(1), 1);
        x.clear();
        due.is("fault(0)", x.fault(0), 0);
        due.is("fault(1)", x.fault(1), NONE);
    }

    private void latestRunIsGone() {
        due.sentence("clear: All is as at the beginning (what the latest run() gave, where it FAILED, its STEPS)");
        String[] texts = {"give 5;", "give 2.5;", "A=1/0;"};
        for (String text : texts) {
            ScriptLanguage x = Stage.set();
            Texts.read(x, text);
            x.run(0, 9);
            x.clear();
            due.is("gave() behind " + text, x.gave(), 0);
            due.isReal("gaveReal() behind " + text, x.gaveReal(), 0.0);
            due.is("place() behind " + text, x.place(), NONE);
            due.is("taken() behind " + text, x.taken(), 0);
            due.is("count(3) behind " + text, x.count(3), 0);
            due.is("run() behind " + text, x.run(0, 9), STATE);
        }
    }

    private void tapeIsGone() {
        due.sentence("clear: All is as at the beginning (THE TAPE)");
        ScriptLanguage x = new ScriptLanguage();
        Texts.put(x, "????????????????????");
        x.clear();
        due.is("count(2)", x.count(2), 0);
        due.is("end(20)", x.end(20), OUTSIDE);
        due.is("feed()", x.feed(0x73746f70, 0x3b202020, 0x20202020, 0x20202020, 0x20202020), 20);
        due.is("read()", x.read(), 1);
    }

    private void oldRowsDoNotShow() {
        due.sentence("clear: All is as at the beginning (ROWS)");
        ScriptLanguage x = new ScriptLanguage();
        for (int round = 0; round < 3; round++) {
            x.column('C', 2, true);
            x.column('D', 3, true);
            x.cellRow(0, 0, 20);
            x.cellRow(1, 0, 20);
            due.is("same()", x.same(0, 0, 1, 0), 0);
            for (int i = 0; i < 20; i++) {
                due.is("at()", x.at(0, 0, i), 0);
                x.cellPut(0, 0, i, 9);
            }
            Texts.read(x, "D=row(20);");
            x.run(0, 9);
            due.is("at() of what a script made", x.at(0, 1, 19), 0);
            x.cellPut(0, 1, 19, 8);
            x.clear();
        }
    }

    private void namesMayComeAgain() {
        due.sentence("clear: All is as at the beginning (COLUMNS: a NAME that was there may come again, of another KIND)");
        ScriptLanguage x = Stage.set();
        x.clear();
        for (int i = 0; i < 8; i++) {
            due.is("column()", x.column('A' + i, 3 - i % 4, i >= 4), i);
        }
        due.is("column() that is there by now", x.column('A', 0, true), STATE);
        due.is("read() of one that may not be written by now", Texts.read(x, "A=1;"), -15);
        due.is("read() of one that may", Texts.read(x, "H=1;"), 1);
        due.is("cellRow()", x.cellRow(0, 1, 2), 1);
    }
}
