/** The edges of promises 6 cell to 14 same: a method for each sentence. */
public final class CellBoundsTest {
    private static final int UNKNOWN = Stage.UNKNOWN, OUTSIDE = Stage.OUTSIDE, STATE = Stage.STATE, NONE = Stage.NONE;
    private static final int LEAST = Stage.LEAST, GREATEST = Stage.GREATEST;
    private static final int[] EDGES = {LEAST, LEAST + 1, -1000009, -1000, -999, -1, 0, 1, 999, 1000, 1001, GREATEST};
    private final Due due = new Due("CellBoundsTest");

    private CellBoundsTest() {
    }

    public static void main(String[] args) {
        CellBoundsTest test = new CellBoundsTest();
        test.unknown();
        test.withoutColumns();
        test.eachItsOwn();
        test.cellOfWhole();
        test.cellOfReal();
        test.cellOfRows();
        test.cellOfAny();
        test.rowLengths();
        test.newRow();
        test.rowInOtherKinds();
        test.places();
        test.putInNoRow();
        test.putWhereARowWas();
        test.missing();
        test.holds();
        test.wholes();
        test.reals();
        test.anyNumber();
        test.same();
        test.counted();
        test.due.close();
    }

    /** Columns 0 of wholes, 1 of reals, 2 of rows, 3 of anys. */
    private static ScriptLanguage four() {
        ScriptLanguage x = new ScriptLanguage();
        for (int i = 0; i < 4; i++) {
            x.column('A' + i, i, true);
        }
        return x;
    }

    private void unknown() {
        due.sentence("UNKNOWN (an OBJECT, COLUMN that there is not)");
        int[][] none = {{-1, 0}, {20, 0}, {0, -1}, {0, 4}, {0, 7}, {0, 8}, {19, 4}, {20, 4}, {LEAST, 0}, {0, LEAST},
            {GREATEST, 0}, {0, GREATEST}, {-1, 8}, {1, -1}, {-1, 20}};
        for (int[] at : none) {
            ScriptLanguage x = four();
            int o = at[0];
            int c = at[1];
            String where = "(" + o + ", " + c + ")";
            due.is("cell" + where, x.cell(o, c, 1), UNKNOWN);
            due.is("cellRow" + where, x.cellRow(o, c, 1), UNKNOWN);
            due.is("cellPut" + where, x.cellPut(o, c, 0, 1), UNKNOWN);
            due.is("miss" + where, x.miss(o, c), UNKNOWN);
            due.is("holds" + where, x.holds(o, c), UNKNOWN);
            due.is("whole" + where, x.whole(o, c), UNKNOWN);
            due.isReal("real" + where, x.real(o, c), 0.0);
            due.is("at" + where, x.at(o, c, 0), UNKNOWN);
            due.is("same" + where + " and a CELL", x.same(o, c, 0, 0), UNKNOWN);
            due.is("same of a CELL and " + where, x.same(0, 0, o, c), UNKNOWN);
            due.is("same of both", x.same(o, c, o, c), UNKNOWN);
            due.is("count(1)", x.count(1), 0);
        }
    }

    private void withoutColumns() {
        due.sentence("UNKNOWN (where there is no COLUMN at all)");
        ScriptLanguage x = new ScriptLanguage();
        due.is("cell()", x.cell(0, 0, 1), UNKNOWN);
        due.is("cellRow()", x.cellRow(0, 0, 1), UNKNOWN);
        due.is("cellPut()", x.cellPut(0, 0, 0, 1), UNKNOWN);
        due.is("miss()", x.miss(0, 0), UNKNOWN);
        due.is("holds()", x.holds(0, 0), UNKNOWN);
        due.is("whole()", x.whole(0, 0), UNKNOWN);
        due.isReal("real()", x.real(0, 0), 0.0);
        due.is("at()", x.at(0, 0, 0), UNKNOWN);
        due.is("same()", x.same(0, 0, 0, 0), UNKNOWN);
    }

    private void eachItsOwn() {
        due.sentence("OBJECTS 0 to 19 have a CELL in each");
        ScriptLanguage x = new ScriptLanguage();
        for (int c = 0; c < 8; c++) {
            x.column('A' + c, 0, true);
        }
        for (int o = 0; o < 20; o++) {
            for (int c = 0; c < 8; c++) {
                due.is("cell(" + o + ", " + c + ")", x.cell(o, c, 100 * o + c), 1);
            }
        }
        due.is("count(1)", x.count(1), 160);
        for (int o = 0; o < 20; o++) {
            for (int c = 0; c < 8; c++) {
                due.is("whole(" + o + ", " + c + ")", x.whole(o, c), 100 * o + c);
            }
        }
    }

    private void cellOfWhole() {
        due.sentence("A CELL holds a WHOLE: 1 (32 bits)");
        for (int v : EDGES) {
            ScriptLanguage x = four();
            due.is("cell() of " + v, x.cell(19, 0, v), 1);
            due.is("whole()", x.whole(19, 0), v);
            due.is("holds()", x.holds(19, 0), 0);
            due.isReal("real(): there is none", x.real(19, 0), 0.0);
        }
    }

    private void cellOfReal() {
        due.sentence("in REALS v thousandths, as doubles, / 1000.0");
        for (int v : EDGES) {
            ScriptLanguage x = four();
            due.is("cell() of " + v, x.cell(0, 1, v), 1);
            due.isReal("real()", x.real(0, 1), (double) v / 1000.0);
            due.is("whole(): cut", x.whole(0, 1), v / 1000);
            due.is("holds()", x.holds(0, 1), 1);
        }
        for (int i = 0; i < 300; i++) {
            ScriptLanguage x = four();
            int v = i * 7654321 - 1147483648;
            x.cell(0, 1, v);
            due.isReal("real() of " + v + " thousandths", x.real(0, 1), (double) v / 1000.0);
        }
    }

    private void cellOfRows() {
        due.sentence("cell: STATE: a COLUMN of ROWS");
        ScriptLanguage x = four();
        due.is("cell() where nothing is", x.cell(0, 2, 1), STATE);
        due.is("holds()", x.holds(0, 2), NONE);
        x.cellRow(0, 2, 3);
        x.cellPut(0, 2, 2, 6);
        due.is("cell() where a ROW is", x.cell(0, 2, 1), STATE);
        due.is("at(): the ROW is as it was", x.at(0, 2, 2), 6);
        due.is("whole()", x.whole(0, 2), 3);
    }

    private void cellOfAny() {
        due.sentence("A CELL holds a WHOLE (also one that may hold any)");
        ScriptLanguage x = four();
        due.is("cell() where nothing is", x.cell(0, 3, -7), 1);
        due.is("holds()", x.holds(0, 3), 0);
        due.is("whole(): no thousandths", x.whole(0, 3), -7);
        x.cellRow(0, 3, 5);
        due.is("cell() where a ROW is", x.cell(0, 3, 8), 1);
        due.is("holds()", x.holds(0, 3), 0);
        due.is("whole()", x.whole(0, 3), 8);
        due.is("at()", x.at(0, 3, 0), STATE);
    }

    private void rowLengths() {
        due.sentence("A CELL holds a new ROW of n (0 to 20) 0s: 1; OUTSIDE");
        for (int c = 2; c <= 3; c++) {
            for (int n = 0; n <= 20; n++) {
                ScriptLanguage x = four();
                due.is("cellRow() of " + n, x.cellRow(0, c, n), 1);
                due.is("whole(): how long it is", x.whole(0, c), n);
                due.is("holds()", x.holds(0, c), 2);
            }
            int[] wrong = {LEAST, -21, -1, 21, 22, 256, GREATEST};
            for (int n : wrong) {
                ScriptLanguage x = four();
                x.cellRow(0, c, 2);
                x.cellPut(0, c, 1, 9);
                due.is("cellRow() of " + n, x.cellRow(0, c, n), OUTSIDE);
                due.is("whole(): the ROW before it is there", x.whole(0, c), 2);
                due.is("at()", x.at(0, c, 1), 9);
            }
        }
    }

    private void newRow() {
        due.sentence("a new ROW of 0s");
        ScriptLanguage x = four();
        x.cellRow(0, 2, 20);
        for (int i = 0; i < 20; i++) {
            x.cellPut(0, 2, i, -1 - i);
        }
        due.is("cellRow() where one was", x.cellRow(0, 2, 20), 1);
        for (int i = 0; i < 20; i++) {
            due.is("at() of the new one", x.at(0, 2, i), 0);
        }
        // The row that no cell holds any more must not show through in the next ones, either.
        for (int o = 1; o < 4; o++) {
            x.cellRow(o, 2, 20);
            for (int i = 0; i < 20; i++) {
                due.is("at() of another new one", x.at(o, 2, i), 0);
            }
        }
        due.is("same() of two new ones", x.same(0, 2, 1, 2), 0);
    }

    private void rowInOtherKinds() {
        due.sentence("cellRow: STATE: no COLUMN of ROWS or ANY");
        for (int c = 0; c < 2; c++) {
            ScriptLanguage x = four();
            x.cell(0, c, 3000);
            due.is("cellRow() of 0", x.cellRow(0, c, 0), STATE);
            due.is("cellRow() of 20", x.cellRow(0, c, 20), STATE);
            due.is("holds(): as it was", x.holds(0, c), c);
            due.is("whole()", x.whole(0, c), c == 0 ? 3000 : 3);
        }
    }

    private void places() {
        due.sentence("cellPut, at: OUTSIDE: the place");
        for (int n = 0; n <= 20; n++) {
            ScriptLanguage x = four();
            x.cellRow(0, 2, n);
            for (int i = 0; i < n; i++) {
                due.is("cellPut() at " + i + " of " + n, x.cellPut(0, 2, i, 100 + i), 1);
            }
            int[] wrong = {LEAST, -1, n, n + 1, 20, 21, GREATEST};
            for (int i : wrong) {
                due.is("cellPut() at " + i + " of " + n, x.cellPut(0, 2, i, 5), OUTSIDE);
                due.is("at() at " + i + " of " + n, x.at(0, 2, i), OUTSIDE);
            }
            for (int i = 0; i < n; i++) {
                due.is("at() at " + i + " of " + n, x.at(0, 2, i), 100 + i);
            }
            due.is("whole()", x.whole(0, 2), n);
        }
    }

    private void putInNoRow() {
        due.sentence("cellPut, at: STATE: it holds none");
        for (int c = 0; c < 4; c++) {
            ScriptLanguage x = four();
            due.is("cellPut() where nothing is", x.cellPut(0, c, 0, 1), STATE);
            due.is("at() where nothing is", x.at(0, c, 0), STATE);
            // Without a row there are no bounds for the place: so STATE, as the promise has it ahead of OUTSIDE.
            due.is("cellPut() of no place", x.cellPut(0, c, -1, 1), STATE);
            due.is("at() of no place", x.at(0, c, 20), STATE);
            due.is("holds()", x.holds(0, c), NONE);
            if (c != 2) {
                x.cell(0, c, 5000);
                due.is("cellPut() where a number is", x.cellPut(0, c, 0, 1), STATE);
                due.is("at() where a number is", x.at(0, c, 0), STATE);
                due.is("whole(): as it was", x.whole(0, c), c == 1 ? 5 : 5000);
            } else {
                x.cellRow(0, c, 1);
                x.miss(0, c);
                due.is("cellPut() where a ROW was", x.cellPut(0, c, 0, 1), STATE);
                due.is("at() where a ROW was", x.at(0, c, 0), STATE);
            }
        }
    }

    private void putWhereARowWas() {
        due.sentence("cellPut, at: STATE: it holds none (any more)");
        String[] texts = {"let r=C;D=7;", "let r=C;D=2.5;", "let r=C;D=A;", "let r=C;D=B;", "let r=C;let d=H;D=d;", "D=C;D=1.5+1.5;", "D=C;D=-1;",
            "D=C;D=C[0];", "D=C;D=size(C);", "D=C;D=real(1);", "D=row(2);D=0.0/0.0;"};
        for (String text : texts) {
            ScriptLanguage x = Stage.set();
            due.is("read() of " + text, Texts.read(x, text) < 0 ? x.fault(1) : NONE, NONE);
            due.is("run() of " + text, x.run(0, 99), 0);
            due.is("at() behind " + text, x.at(0, 3, 0), STATE);
            due.is("cellPut() behind " + text, x.cellPut(0, 3, 0, 1), STATE);
            due.is("same() behind " + text, x.same(0, 2, 0, 3), 0);
            due.is("same() of it and itself", x.same(0, 3, 0, 3), 0);
        }
    }

    private void missing() {
        due.sentence("miss: 1 if it was not, else 0");
        for (int c = 0; c < 4; c++) {
            ScriptLanguage x = four();
            due.is("miss() at first", x.miss(0, c), 0);
            due.is("cell()", c == 2 ? x.cellRow(0, c, 0) : x.cell(0, c, 0), 1);
            due.is("miss() of 0, or of an empty ROW", x.miss(0, c), 1);
            due.is("holds()", x.holds(0, c), NONE);
            due.is("whole()", x.whole(0, c), NONE);
            due.isReal("real()", x.real(0, c), 0.0);
            due.is("miss() again", x.miss(0, c), 0);
        }
    }

    private void holds() {
        due.sentence("holds: 0 a WHOLE, 1 a REAL, 2 a ROW; NONE: it is MISSING");
        ScriptLanguage x = four();
        x.cell(0, 1, 1500);
        x.cellRow(0, 2, 0);
        x.cell(0, 0, 0);
        String[] texts = {"D=A;", "D=B;", "D=C;"};
        due.is("holds() of an ANY at first", x.holds(0, 3), NONE);
        for (int kind = 0; kind < 3; kind++) {
            Texts.read(x, texts[kind]);
            x.run(0, 9);
            due.is("holds() of KIND " + kind, x.holds(0, kind), kind);
            due.is("holds() of an ANY, behind " + texts[kind], x.holds(0, 3), kind);
        }
        x.miss(0, 3);
        due.is("holds() behind miss()", x.holds(0, 3), NONE);
    }

    private void wholes() {
        due.sentence("whole: the REAL, cut; how long its ROW is");
        ScriptLanguage x = four();
        int[][] cuts = {{1999, 1}, {-1999, -1}, {999, 0}, {-999, 0}, {0, 0}, {2000, 2}, {-2000, -2}, {GREATEST, 2147483},
            {LEAST, -2147483}};
        for (int[] cut : cuts) {
            x.cell(0, 1, cut[0]);
            due.is("whole() of " + cut[0] + " thousandths", x.whole(0, 1), cut[1]);
        }
        String[] texts = {"B=214748364.0*10.0+7.9;", "B=214748364.0*10.0+8.0;", "B=-214748364.0*10.0-8.9;", "B=-214748364.0*10.0-9.0;",
            "B=1.0/0.0;", "B=-1.0/0.0;", "B=0.0/0.0;"};
        int[] due7 = {GREATEST, GREATEST, LEAST, LEAST, GREATEST, LEAST, 0};
        for (int i = 0; i < 7; i++) {
            Texts.read(x, texts[i]);
            x.run(0, 9);
            due.is("whole() behind " + texts[i], x.whole(0, 1), due7[i]);
        }
    }

    private void reals() {
        due.sentence("real: The REAL of a CELL; 0.0: there is none");
        ScriptLanguage x = four();
        due.isReal("real() of what is MISSING", x.real(0, 1), 0.0);
        x.cell(0, 0, 7);
        x.cellRow(0, 2, 3);
        due.isReal("real() of a WHOLE", x.real(0, 0), 0.0);
        due.isReal("real() of a ROW", x.real(0, 2), 0.0);
        due.isReal("real() of no CELL", x.real(0, 4), 0.0);
        x.cell(0, 1, 2500);
        Texts.read(x, "D=B;");
        x.run(0, 9);
        due.isReal("real() of a REAL", x.real(0, 1), 2.5);
        due.isReal("real() of a REAL in an ANY", x.real(0, 3), 2.5);
        x.cell(0, 3, 7);
        due.isReal("real() where a WHOLE came behind a REAL", x.real(0, 3), 0.0);
        x.miss(0, 1);
        due.isReal("real() behind miss()", x.real(0, 1), 0.0);
    }

    private void anyNumber() {
        due.sentence("whole, at: (It may be any number.)");
        int[] codes = {UNKNOWN, OUTSIDE, STATE, Stage.ROOM, NONE, LEAST, GREATEST, -1};
        for (int code : codes) {
            ScriptLanguage x = four();
            x.cell(0, 0, code);
            due.is("whole() of " + code, x.whole(0, 0), code);
            due.is("holds()", x.holds(0, 0), 0);
            x.cellRow(0, 2, 1);
            due.is("cellPut() of " + code, x.cellPut(0, 2, 0, code), 1);
            due.is("at()", x.at(0, 2, 0), code);
        }
    }

    private void same() {
        due.sentence("same: Whether two CELLS hold the same ROW: 1, 0");
        ScriptLanguage x = four();
        due.is("same() of a MISSING CELL and itself", x.same(0, 2, 0, 2), 0);
        due.is("same() of two MISSING CELLS", x.same(0, 2, 0, 3), 0);
        x.cell(0, 0, 1);
        x.cell(0, 3, 1);
        due.is("same() of a WHOLE and itself", x.same(0, 0, 0, 0), 0);
        due.is("same() of two WHOLES", x.same(0, 0, 0, 3), 0);
        x.cellRow(0, 2, 0);
        due.is("same() of an empty ROW and itself", x.same(0, 2, 0, 2), 1);
        due.is("same() of a ROW and a WHOLE", x.same(0, 2, 0, 3), 0);
        x.cellRow(0, 3, 0);
        x.cellRow(19, 2, 0);
        due.is("same() of two empty ROWS", x.same(0, 2, 0, 3), 0);
        due.is("same() of ROWS of two OBJECTS", x.same(0, 2, 19, 2), 0);
        Texts.read(x, "D=C;");
        x.run(0, 9);
        due.is("same() behind D=C;", x.same(0, 2, 0, 3), 1);
        due.is("same() the other way round", x.same(0, 3, 0, 2), 1);
        x.miss(0, 2);
        due.is("same() behind miss()", x.same(0, 2, 0, 3), 0);
        due.is("holds() of the other", x.holds(0, 3), 2);
    }

    private void counted() {
        due.sentence("count: CELLS that are not MISSING (1)");
        ScriptLanguage x = four();
        int held = 0;
        for (int o = 0; o < 20; o += 19) {
            for (int c = 0; c < 4; c++) {
                due.is("count(1)", x.count(1), held);
                due.is("cell()", c == 2 ? x.cellRow(o, c, 0) : x.cell(o, c, 0), 1);
                held++;
                due.is("count(1) behind one more", x.count(1), held);
                due.is("cell() once more", c == 2 ? x.cellRow(o, c, 0) : x.cell(o, c, 0), 1);
            }
        }
        due.is("count(1)", x.count(1), 8);
        x.miss(19, 3);
        x.miss(19, 3);
        due.is("count(1) behind miss()", x.count(1), 7);
    }
}
