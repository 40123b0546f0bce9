/** Promises 4 column, 6 cell, 7 cellRow, 8 cellPut, 9 miss, 10 holds, 11 whole, 12 real, 13 at, 14 same. */
public final class CellsTest {
    private static final int UNKNOWN = ScriptLanguage.UNKNOWN, OUTSIDE = ScriptLanguage.OUTSIDE;
    private static final int STATE = ScriptLanguage.STATE, ROOM = ScriptLanguage.ROOM, NONE = ScriptLanguage.NONE;

    private CellsTest() {
    }

    public static void main(String[] args) {
        Due due = new Due("CellsTest");
        columns(due);
        columnEndsScript(due);
        wholesAndReals(due);
        rows(due);
        missing(due);
        sameRows(due);
        unknown(due);
        due.close();
    }

    private static ScriptLanguage four() {
        ScriptLanguage x = new ScriptLanguage();
        x.column('A', 0, true);
        x.column('B', 1, true);
        x.column('C', 2, true);
        x.column('D', 3, true);
        return x;
    }

    private static void columns(Due due) {
        ScriptLanguage x = new ScriptLanguage();
        due.is("column(64)", x.column(64, 0, true), OUTSIDE);
        due.is("column(91)", x.column(91, 0, true), OUTSIDE);
        due.is("kind -1", x.column(65, -1, true), OUTSIDE);
        due.is("kind 4", x.column(65, 4, true), OUTSIDE);
        due.is("count(0)", x.count(0), 0);
        due.is("column(65)", x.column(65, 3, true), 0);
        due.is("column(90)", x.column(90, 2, false), 1);
        due.is("column(90) once more", x.column(90, 0, true), STATE);
        due.is("column(90) of no kind: OUTSIDE comes first", x.column(90, 9, true), OUTSIDE);
        for (int i = 2; i < 8; i++) {
            due.is("column " + i, x.column(70 + i, i % 4, true), i);
        }
        due.is("a ninth column", x.column(66, 0, true), ROOM);
        due.is("a ninth column of a name that is there: STATE comes first", x.column(90, 0, true), STATE);
        due.is("a ninth column of a wrong name: OUTSIDE comes first", x.column(0, 0, true), OUTSIDE);
        due.is("count(0)", x.count(0), 8);
    }

    private static void columnEndsScript(Due due) {
        ScriptLanguage x = new ScriptLanguage();
        Texts.read(x, "stop;");
        due.is("count(4)", x.count(4), 1);
        x.column('!', 0, true);
        due.is("count(4) behind a column that was refused", x.count(4), 1);
        x.column('A', 0, true);
        due.is("count(4) behind a column", x.count(4), 0);
        due.is("run behind a column", x.run(0, 1), STATE);
        due.is("read with the new column", Texts.read(x, "A=1;"), 1);
        x.column('A', 0, true);
        due.is("count(4) behind a name that is there", x.count(4), 1);
        Texts.read(x, "B=1;");
        x.column('B', 0, true);
        due.is("fault(0) behind a column", x.fault(0), 3);
    }

    private static void wholesAndReals(Due due) {
        ScriptLanguage x = four();
        due.is("cell of a whole", x.cell(0, 0, Integer.MIN_VALUE), 1);
        due.is("whole", x.whole(0, 0), Integer.MIN_VALUE);
        due.is("holds", x.holds(0, 0), 0);
        due.isReal("real of a whole", x.real(0, 0), 0.0);
        due.is("cell of a real", x.cell(19, 1, -2501), 1);
        due.isReal("real", x.real(19, 1), -2501 / 1000.0);
        due.is("whole of a real is cut", x.whole(19, 1), -2);
        due.is("holds", x.holds(19, 1), 1);
        due.is("cell of an any", x.cell(3, 3, 77), 1);
        due.is("holds", x.holds(3, 3), 0);
        due.is("whole", x.whole(3, 3), 77);
        due.is("cell of a row", x.cell(0, 2, 1), STATE);
        due.is("holds of it", x.holds(0, 2), NONE);
        due.is("count(1)", x.count(1), 3);
        due.is("another object's cell", x.holds(1, 0), NONE);
        due.isReal("real of what is missing", x.real(1, 1), 0.0);
        x.cell(1, 0, NONE);
        due.is("a whole may be any number", x.whole(1, 0), NONE);
        x.cell(0, 1, 0);
        due.isReal("real of 0 thousandths", x.real(0, 1), 0.0);
    }

    private static void rows(Due due) {
        ScriptLanguage x = four();
        due.is("cellRow in wholes", x.cellRow(0, 0, 3), STATE);
        due.is("cellRow in reals", x.cellRow(0, 1, 3), STATE);
        due.is("cellRow(-1) in wholes: OUTSIDE comes first", x.cellRow(0, 0, -1), OUTSIDE);
        due.is("cellRow(-1)", x.cellRow(0, 2, -1), OUTSIDE);
        due.is("cellRow(21)", x.cellRow(0, 2, 21), OUTSIDE);
        due.is("cellPut where nothing is", x.cellPut(0, 2, 0, 1), STATE);
        due.is("at where nothing is", x.at(0, 2, 0), STATE);
        due.is("cellRow(20)", x.cellRow(0, 2, 20), 1);
        due.is("holds", x.holds(0, 2), 2);
        due.is("whole of a row", x.whole(0, 2), 20);
        due.isReal("real of a row", x.real(0, 2), 0.0);
        for (int i = 0; i < 20; i++) {
            due.is("at " + i, x.at(0, 2, i), 0);
        }
        due.is("cellPut 19", x.cellPut(0, 2, 19, -5), 1);
        due.is("cellPut 20", x.cellPut(0, 2, 20, 1), OUTSIDE);
        due.is("cellPut -1", x.cellPut(0, 2, -1, 1), OUTSIDE);
        due.is("at 19", x.at(0, 2, 19), -5);
        due.is("at 18", x.at(0, 2, 18), 0);
        due.is("at 20", x.at(0, 2, 20), OUTSIDE);
        due.is("at -1", x.at(0, 2, -1), OUTSIDE);
        due.is("cellRow(0) in any", x.cellRow(0, 3, 0), 1);
        due.is("holds", x.holds(0, 3), 2);
        due.is("whole of an empty row", x.whole(0, 3), 0);
        due.is("cellPut into an empty row", x.cellPut(0, 3, 0, 1), OUTSIDE);
        due.is("a new row", x.cellRow(0, 2, 20), 1);
        due.is("at 19 of a new row", x.at(0, 2, 19), 0);
        x.cell(0, 3, 8);
        due.is("cellPut where a whole is", x.cellPut(0, 3, 0, 1), STATE);
        due.is("at where a whole is", x.at(0, 3, 0), STATE);
        x.cellRow(1, 2, 2);
        x.cellPut(1, 2, 0, STATE);
        due.is("at may be any number", x.at(1, 2, 0), STATE);
    }

    private static void missing(Due due) {
        ScriptLanguage x = four();
        due.is("miss of what is missing", x.miss(0, 0), 0);
        x.cell(0, 0, 0);
        x.cellRow(0, 2, 1);
        due.is("count(1)", x.count(1), 2);
        due.is("miss", x.miss(0, 0), 1);
        due.is("miss again", x.miss(0, 0), 0);
        due.is("holds", x.holds(0, 0), NONE);
        due.is("whole", x.whole(0, 0), NONE);
        due.is("miss of a row", x.miss(0, 2), 1);
        due.is("at", x.at(0, 2, 0), STATE);
        due.is("count(1)", x.count(1), 0);
    }

    private static void sameRows(Due due) {
        ScriptLanguage x = four();
        due.is("same of two that are missing", x.same(0, 2, 0, 3), 0);
        x.cellRow(0, 2, 2);
        x.cellRow(0, 3, 2);
        x.cellRow(1, 2, 2);
        due.is("same of two rows that are alike", x.same(0, 2, 0, 3), 0);
        due.is("same of one cell", x.same(0, 2, 0, 2), 1);
        due.is("same of a row and a missing one", x.same(0, 2, 5, 2), 0);
        Texts.read(x, "D=C;");
        x.run(0, 9);
        due.is("same behind D=C;", x.same(0, 2, 0, 3), 1);
        x.cellPut(0, 3, 1, 6);
        due.is("what is put in one is seen in the other", x.at(0, 2, 1), 6);
        x.cellRow(0, 2, 2);
        due.is("same behind a new row", x.same(0, 2, 0, 3), 0);
        due.is("the other keeps its row", x.at(0, 3, 1), 6);
        x.cell(2, 0, 4);
        x.cell(2, 3, 4);
        due.is("same of two wholes", x.same(2, 0, 2, 3), 0);
    }

    private static void unknown(Due due) {
        ScriptLanguage x = four();
        int[][] none = {{-1, 0}, {20, 0}, {0, -1}, {0, 4}, {Integer.MIN_VALUE, 0}, {0, Integer.MAX_VALUE}};
        for (int[] at : none) {
            int o = at[0];
            int c = at[1];
            String where = " at " + o + ", " + c;
            due.is("cell" + where, x.cell(o, c, 1), UNKNOWN);
            due.is("cellRow" + where, x.cellRow(o, c, 99), UNKNOWN);
            due.is("cellPut" + where, x.cellPut(o, c, 99, 1), UNKNOWN);
            due.is("miss" + where, x.miss(o, c), UNKNOWN);
            due.is("holds" + where, x.holds(o, c), UNKNOWN);
            due.is("whole" + where, x.whole(o, c), UNKNOWN);
            due.isReal("real" + where, x.real(o, c), 0.0);
            due.is("at" + where, x.at(o, c, 99), UNKNOWN);
            due.is("same" + where, x.same(o, c, 0, 0), UNKNOWN);
            due.is("same, the other" + where, x.same(0, 0, o, c), UNKNOWN);
        }
        due.is("count(1)", x.count(1), 0);
    }
}
