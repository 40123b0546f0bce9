/** Promises 5 rule, 17 run and 20 place: what FAILS and where, and that it changes nothing at all. */
public final class FailTest {
    private static final int NONE = ScriptLanguage.NONE;
    private final Due due = new Due("FailTest");
    private ScriptLanguage x;

    private FailTest() {
    }

    public static void main(String[] args) {
        FailTest test = new FailTest();
        test.each();
        test.order();
        test.theRule();
        test.nothingChanges();
        test.rowsOfOthers();
        test.counted();
        test.due.close();
    }

    /** A whole 4, B real 2.5, C row 0 7 0, D any; E to H of the same kinds are missing. */
    private void fresh(String text) {
        x = new ScriptLanguage();
        for (int i = 0; i < 8; i++) {
            x.column('A' + i, i % 4, true);
        }
        x.cell(0, 0, 4);
        x.cell(0, 1, 2500);
        x.cellRow(0, 2, 3);
        x.cellPut(0, 2, 1, 7);
        due.is("read of " + text, Texts.read(x, text) < 0 ? x.fault(1) : NONE, NONE);
    }

    private void fails(String text, int what, int place) {
        fresh(text);
        due.is("run of " + text, x.run(0, 400), -1 - what);
        due.is("place of " + text, x.place(), place);
        due.is("gave of " + text, x.gave(), 0);
        due.isReal("gaveReal of " + text, x.gaveReal(), 0.0);
    }

    private void each() {
        fails("A=1/0;", 1, 3);
        fails("A=1%(A-4);", 1, 3);
        fails("A=C[3];", 2, 3);
        fails("A=C[-1];", 2, 3);
        fails("C[3]=1;", 2, 1);
        fails("C[-1]=1;", 2, 1);
        fails("C=row(0);A=C[0];", 2, 12);
        fails("A=E;", 3, 2);
        fails("B=F;", 3, 2);
        fails("C=G;", 3, 2);
        fails("A=G[0];", 3, 2);
        fails("G[0]=1;", 3, 0);
        fails("A=1;give E;", 3, 9);
        fails("D=E;", 3, 2);
        fails("let g=G;", 3, 6);
        fails("A=size(G);", 3, 7);
        fails("A=whole(H);", 3, 2);
        fails("B=real(H);", 3, 2);
        fails("C=asrow(H);", 3, 2);
        fails("let h=H;A=whole(h);", 3, 10);
        fails("D=2.5;A=whole(D);", 4, 8);
        fails("D=C;A=whole(D);", 4, 6);
        fails("D=1;B=real(D);", 4, 6);
        fails("D=C;B=real(D);", 4, 6);
        fails("D=1;C=asrow(D);", 4, 6);
        fails("D=2.5;C=asrow(D);", 4, 8);
        fails("C=row(-1);", 5, 2);
        fails("C=row(0-999999999);", 5, 2);
        fails("C=row(21);", 7, 2);
        fails("C=row(999999999);", 7, 2);
        fails("repeat 400{}", 6, 0);
    }

    private void order() {
        // From the left, and each ahead of what it does.
        fails("A=1/0+E;", 1, 3);
        fails("A=E+1/0;", 3, 2);
        fails("A=1+1/0;", 1, 5);
        fails("G[1/0]=E;", 3, 0);
        fails("C[1/0]=E;", 1, 3);
        fails("C[9]=E;", 3, 5);
        fails("C[9]=1/0;", 1, 6);
        fails("C[E]=1/0;", 3, 2);
        fails("A=C[1/0];", 1, 5);
        fails("A=G[1/0];", 3, 2);
        fails("if 1/0{}", 1, 4);
        fails("repeat E{}", 3, 7);
        fails("A=whole(H)/0;", 3, 2);
        fails("A=0*E;", 3, 4);
        fresh("A=1/0;");
        x.run(0, 400);
        due.is("taken: the step of the / is taken", x.taken(), 2);
        fresh("A=E;");
        x.run(0, 400);
        due.is("taken: a column takes none", x.taken(), 1);
    }

    private void theRule() {
        fresh("A=E+1;B=F+1.5;");
        due.is("run", x.run(0, 9), -4);
        due.is("rule(true)", x.rule(true), 0);
        due.is("rule(true) again", x.rule(true), 1);
        due.is("run", x.run(0, 9), 0);
        due.is("A", x.whole(0, 0), 1);
        due.isReal("B", x.real(0, 1), 1.5);
        due.is("what is read stays missing", x.holds(0, 4), NONE);
        due.is("rule(false)", x.rule(false), 1);
        due.is("run", x.run(0, 9), -4);
        due.is("rule(false) again", x.rule(false), 0);
        x.rule(true);
        Texts.read(x, "give size(G);");
        due.is("a row is not under the rule", x.run(0, 9), -4);
        due.is("place", x.place(), 10);
        Texts.read(x, "give whole(H);");
        due.is("an any is not under the rule", x.run(0, 9), -4);
        due.is("place", x.place(), 5);
        Texts.read(x, "H=H;give 1.0/F;");
        due.is("a real is 0.0", x.run(0, 9), 3);
        due.isReal("gaveReal", x.gaveReal(), Double.POSITIVE_INFINITY);
        due.is("an any that is read stays missing", x.holds(0, 7), NONE);
    }

    private void nothingChanges() {
        fresh("A=1;B=1.5;C[1]=8;C[1]=9;D=C;C=row(2);C[0]=3;D=5;E=1;F=1.5;G=row(1);H=G;let r=G;r[0]=1;A=1/0;");
        x.cellRow(0, 3, 2);
        x.cellPut(0, 3, 0, 6);
        int held = x.count(1);
        due.is("run", x.run(0, 400), -2);
        due.is("A", x.whole(0, 0), 4);
        due.isReal("B", x.real(0, 1), 2.5);
        due.is("size of C", x.whole(0, 2), 3);
        due.is("C[0]", x.at(0, 2, 0), 0);
        due.is("C[1]", x.at(0, 2, 1), 7);
        due.is("D[0]", x.at(0, 3, 0), 6);
        due.is("same", x.same(0, 2, 0, 3), 0);
        due.is("count(1)", x.count(1), held);
        for (int column = 4; column < 8; column++) {
            due.is("holds " + column, x.holds(0, column), NONE);
        }
        due.is("run again", x.run(0, 400), -2);
        due.is("C[1]", x.at(0, 2, 1), 7);
        due.is("run that is spent at its last step", x.run(0, 21), -7);
        due.is("C[1]", x.at(0, 2, 1), 7);
        due.is("A", x.whole(0, 0), 4);
        Texts.read(x, "repeat 150{C[0]=C[0]+1;}");
        due.is("run that is spent", x.run(0, 400), -7);
        due.is("C[0]", x.at(0, 2, 0), 0);
        due.is("taken", x.taken(), 400);
        Texts.read(x, "C[0]=1;" + Texts.times("C[0]=2;", 199) + "C[0]=3;");
        due.is("200 changes and one", x.run(0, 400), -7);
        due.is("C[0]", x.at(0, 2, 0), 0);
    }

    private void rowsOfOthers() {
        // A row that only another cell of the object holds by now, and new rows of a run that failed.
        fresh("D=C;C=row(3);C[0]=5;");
        x.run(0, 9);
        Texts.read(x, "let r=asrow(D);C=r;C[1]=1;D=0;D=row(20);H=row(20);A=1/0;");
        due.is("run", x.run(0, 30), -2);
        due.is("C[0]", x.at(0, 2, 0), 5);
        due.is("D[1]", x.at(0, 3, 1), 7);
        due.is("same", x.same(0, 2, 0, 3), 0);
        due.is("H", x.holds(0, 7), NONE);
        x.cellRow(0, 6, 3);
        x.cellPut(0, 6, 0, 99);
        due.is("C[0]", x.at(0, 2, 0), 5);
        due.is("D[0]", x.at(0, 3, 0), 0);
        // Rows that no cell holds any more may be used again, but are new then.
        Texts.read(x, "G=row(3);G[2]=A;G=row(3);H=row(5);");
        for (int i = 0; i < 5; i++) {
            due.is("run " + i, x.run(0, 30), 0);
            due.is("G[2]", x.at(0, 6, 2), 0);
            due.is("C[0]", x.at(0, 2, 0), 5);
            due.is("D[1]", x.at(0, 3, 1), 7);
            due.is("same", x.same(0, 6, 0, 7), 0);
            x.cellPut(0, 6, 2, 44);
            x.cellPut(0, 7, 2, 45);
        }
    }

    private void counted() {
        fresh("A=1/0;");
        due.is("count(3)", x.count(3), 0);
        x.run(0, 9);
        x.run(0, 1);
        x.run(5, 9);
        due.is("count(3)", x.count(3), 3);
        x.run(20, 9);
        x.run(0, 0);
        due.is("count(3) behind runs that are refused", x.count(3), 3);
        Texts.read(x, "stop;");
        x.run(0, 9);
        due.is("count(3) behind one that did not fail", x.count(3), 3);
        x.clear();
        due.is("count(3) behind clear()", x.count(3), 0);
    }
}
