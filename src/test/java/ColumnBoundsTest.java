/** The edges of promise 4 column, and of the codes where two would fit: a method for each sentence. */
public final class ColumnBoundsTest {
    private static final int UNKNOWN = Stage.UNKNOWN, OUTSIDE = Stage.OUTSIDE, STATE = Stage.STATE, ROOM = Stage.ROOM;
    private static final int NONE = Stage.NONE, LEAST = Stage.LEAST, GREATEST = Stage.GREATEST;
    private static final int[] NO_NAMES = {LEAST, -191, -1, 0, 64, 91, 97, 122, 65 + 256, 65 + 65536, GREATEST};
    private static final int[] NO_KINDS = {LEAST, -1, 4, 256, GREATEST};
    private final Due due = new Due("ColumnBoundsTest");

    private ColumnBoundsTest() {
    }

    public static void main(String[] args) {
        ColumnBoundsTest test = new ColumnBoundsTest();
        test.asTheyCome();
        test.names();
        test.eachOnce();
        test.kinds();
        test.mayWrite();
        test.scriptIsGone();
        test.refusedKeepsScript();
        test.outsideFirst();
        test.stateBeforeRoom();
        test.missingAtFirst();
        test.cellCodes();
        test.cellRowCodes();
        test.runCodes();
        test.due.close();
    }

    private static ScriptLanguage full() {
        ScriptLanguage x = new ScriptLanguage();
        for (int i = 0; i < 8; i++) {
            x.column('A' + i, i % 4, true);
        }
        return x;
    }

    private void asTheyCome() {
        due.sentence("COLUMNS 0 to 7, as they come");
        ScriptLanguage x = new ScriptLanguage();
        for (int i = 0; i < 8; i++) {
            due.is("holds() of column " + i + " before it is there", x.holds(0, i), UNKNOWN);
            due.is("column() number " + i, x.column('Z' - i, i % 4, true), i);
            due.is("count(0)", x.count(0), i + 1);
            due.is("holds() of it", x.holds(19, i), NONE);
        }
        due.is("a ninth column()", x.column('A', 0, true), ROOM);
        due.is("count(0)", x.count(0), 8);
        due.is("holds() of a ninth", x.holds(0, 8), UNKNOWN);
    }

    private void names() {
        due.sentence("OUTSIDE: the NAME (65 to 90)");
        for (int name = 65; name <= 90; name++) {
            ScriptLanguage x = new ScriptLanguage();
            due.is("column(" + name + ")", x.column(name, 0, true), 0);
            due.is("read() of it", Texts.read(x, (char) name + "=1;"), 1);
        }
        for (int name : NO_NAMES) {
            ScriptLanguage x = new ScriptLanguage();
            due.is("column(" + name + ")", x.column(name, 0, true), OUTSIDE);
            due.is("count(0)", x.count(0), 0);
        }
    }

    private void eachOnce() {
        due.sentence("STATE: the NAME is there");
        ScriptLanguage x = new ScriptLanguage();
        for (int i = 0; i < 8; i++) {
            x.column('A' + i, 0, true);
            for (int j = 0; j <= i; j++) {
                due.is("column() of a NAME that is there", x.column('A' + j, 1, false), STATE);
            }
            due.is("count(0)", x.count(0), i + 1);
        }
        due.is("cell(): the KIND is as it was", x.cell(0, 0, 5), 1);
        due.is("whole()", x.whole(0, 0), 5);
        due.is("read(): and it may be written", Texts.read(x, "A=1;"), 1);
    }

    private void kinds() {
        due.sentence("OUTSIDE: the KIND");
        for (int kind = 0; kind < 4; kind++) {
            ScriptLanguage x = new ScriptLanguage();
            due.is("column() of KIND " + kind, x.column('A', kind, true), 0);
            due.is("cell()", x.cell(0, 0, 1500), kind == 2 ? STATE : 1);
            due.is("cellRow()", x.cellRow(0, 0, 1), kind == 2 || kind == 3 ? 1 : STATE);
        }
        for (int kind : NO_KINDS) {
            ScriptLanguage x = new ScriptLanguage();
            due.is("column() of KIND " + kind, x.column('A', kind, true), OUTSIDE);
            due.is("count(0)", x.count(0), 0);
        }
    }

    private void mayWrite() {
        due.sentence("whether scripts may write it (but calls may)");
        for (int kind = 0; kind < 4; kind++) {
            ScriptLanguage x = new ScriptLanguage();
            x.column('A', kind, false);
            due.is("cell()", kind == 2 ? x.cellRow(0, 0, 2) : x.cell(0, 0, 3000), 1);
            due.is("holds()", x.holds(0, 0), kind == 3 ? 0 : kind);
            due.is("cellPut()", x.cellPut(0, 0, 1, 9), kind == 2 ? 1 : STATE);
            due.is("miss()", x.miss(0, 0), 1);
            due.is("read()", Texts.read(x, "A=A;"), -15);
        }
    }

    private void scriptIsGone() {
        due.sentence("column: the script is gone");
        ScriptLanguage x = new ScriptLanguage();
        for (int i = 0; i < 8; i++) {
            Texts.read(x, "stop;");
            due.is("count(4)", x.count(4), 1);
            x.column('A' + i, 0, true);
            due.is("count(4) behind column()", x.count(4), 0);
            due.is("run() behind column()", x.run(0, 1), STATE);
        }
        Texts.put(x, "stop;");
        due.is("count(2): the tape is not", x.count(2), 5);
    }

    private void refusedKeepsScript() {
        due.sentence("column: OUTSIDE, STATE, ROOM; then nothing changes");
        ScriptLanguage x = full();
        Texts.read(x, "stop;");
        x.column('A', 9, true);
        x.column('a', 0, true);
        x.column('A', 0, true);
        x.column('Z', 0, true);
        due.is("count(4)", x.count(4), 1);
        due.is("run()", x.run(0, 1), 1);
        due.is("count(0)", x.count(0), 8);
    }

    private void outsideFirst() {
        due.sentence("Codes, the first of these that fits: OUTSIDE ahead of STATE and of ROOM");
        ScriptLanguage x = full();
        for (int kind : NO_KINDS) {
            due.is("column() of a NAME that is there, of KIND " + kind, x.column('A', kind, true), OUTSIDE);
            due.is("column() of a ninth, of KIND " + kind, x.column('Z', kind, true), OUTSIDE);
        }
        for (int name : NO_NAMES) {
            due.is("column(" + name + ") of a ninth", x.column(name, 0, true), OUTSIDE);
        }
    }

    private void stateBeforeRoom() {
        due.sentence("Codes, the first of these that fits: STATE ahead of ROOM");
        ScriptLanguage x = full();
        for (int i = 0; i < 8; i++) {
            due.is("column() of a NAME that is there, as a ninth", x.column('A' + i, 0, true), STATE);
        }
        due.is("column() of a ninth", x.column('I', 0, true), ROOM);
    }

    private void missingAtFirst() {
        due.sentence("OBJECTS 0 to 19 have a CELL in each: MISSING at first");
        ScriptLanguage x = full();
        for (int o = 0; o < 20; o++) {
            for (int c = 0; c < 8; c++) {
                due.is("holds(" + o + ", " + c + ")", x.holds(o, c), NONE);
                due.is("whole(" + o + ", " + c + ")", x.whole(o, c), NONE);
            }
        }
        due.is("count(1)", x.count(1), 0);
        x = new ScriptLanguage();
        x.column('A', 0, true);
        x.cell(0, 0, 1);
        x.column('B', 0, true);
        due.is("holds() of a COLUMN that came later", x.holds(0, 1), NONE);
        due.is("holds() of the one before it", x.holds(0, 0), 0);
    }

    private void cellCodes() {
        due.sentence("Codes, the first of these that fits: UNKNOWN ahead of STATE");
        ScriptLanguage x = full();
        due.is("cell() of a COLUMN of ROWS", x.cell(0, 2, 1), STATE);
        due.is("cell() of it, of no OBJECT", x.cell(20, 2, 1), UNKNOWN);
        due.is("cellPut() of no ROW", x.cellPut(0, 0, 0, 1), STATE);
        due.is("cellPut() of it, of no OBJECT", x.cellPut(-1, 0, 0, 1), UNKNOWN);
        due.is("cellPut() of it, of no COLUMN", x.cellPut(0, 8, 0, 1), UNKNOWN);
        due.is("at() of no ROW", x.at(0, 0, 0), STATE);
        due.is("at() of it, of no OBJECT", x.at(20, 0, 0), UNKNOWN);
    }

    private void cellRowCodes() {
        due.sentence("cellRow: UNKNOWN; OUTSIDE; STATE, the first of these that fits");
        ScriptLanguage x = full();
        int[] wrong = {LEAST, -1, 21, GREATEST};
        for (int n : wrong) {
            due.is("cellRow(20, 0, " + n + ")", x.cellRow(20, 0, n), UNKNOWN);
            due.is("cellRow(0, 8, " + n + ")", x.cellRow(0, 8, n), UNKNOWN);
            due.is("cellRow(0, 0, " + n + ")", x.cellRow(0, 0, n), OUTSIDE);
            due.is("cellRow(0, 1, " + n + ")", x.cellRow(0, 1, n), OUTSIDE);
            due.is("cellRow(0, 2, " + n + ")", x.cellRow(0, 2, n), OUTSIDE);
            due.is("cellRow(0, 3, " + n + ")", x.cellRow(0, 3, n), OUTSIDE);
        }
        due.is("cellRow(0, 0, 20)", x.cellRow(0, 0, 20), STATE);
        due.is("cellRow(0, 1, 0)", x.cellRow(0, 1, 0), STATE);
        due.is("cellRow(-1, 1, 0)", x.cellRow(-1, 1, 0), UNKNOWN);
    }

    private void runCodes() {
        due.sentence("run: UNKNOWN; OUTSIDE; STATE, the first of these that fits");
        ScriptLanguage x = full();
        int[] noSteps = {LEAST, -1, 0, 401, GREATEST};
        int[] noObjects = {LEAST, -1, 20, GREATEST};
        for (int steps : noSteps) {
            for (int object : noObjects) {
                due.is("run(" + object + ", " + steps + ") without a script", x.run(object, steps), UNKNOWN);
            }
            due.is("run(0, " + steps + ") without a script", x.run(0, steps), OUTSIDE);
        }
        due.is("run(20, 1) without a script", x.run(20, 1), UNKNOWN);
        due.is("run(0, 1) without a script", x.run(0, 1), STATE);
        due.is("run(19, 400) without a script", x.run(19, 400), STATE);
    }
}
