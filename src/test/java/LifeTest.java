/** Promises 22 count and 23 clear, and that wrong numbers of any size are answered in any state. */
public final class LifeTest {
    private LifeTest() {
    }

    public static void main(String[] args) {
        Due due = new Due("LifeTest");
        counts(due);
        clears(due);
        wrongNumbers(due);
        due.close();
    }

    private static void counts(Due due) {
        ScriptLanguage x = new ScriptLanguage();
        due.is("count(-1)", x.count(-1), ScriptLanguage.OUTSIDE);
        due.is("count(5)", x.count(5), ScriptLanguage.OUTSIDE);
        x.column('A', 0, true);
        x.column('D', 3, true);
        x.column('C', 2, true);
        due.is("count(0)", x.count(0), 3);
        for (int o = 0; o < 20; o++) {
            x.cell(o, 0, o);
            x.cellRow(o, 2, o);
        }
        due.is("count(1)", x.count(1), 40);
        Texts.put(x, "D=C;");
        due.is("count(2)", x.count(2), 4);
        due.is("count(4)", x.count(4), 0);
        x.read();
        due.is("count(2)", x.count(2), 0);
        due.is("count(4)", x.count(4), 1);
        x.run(0, 9);
        due.is("count(1)", x.count(1), 41);
        x.run(0, 9);
        due.is("count(1)", x.count(1), 41);
        x.miss(0, 0);
        due.is("count(1)", x.count(1), 40);
        Texts.read(x, "C=C;A=1/0;");
        x.run(0, 9);
        due.is("count(1)", x.count(1), 40);
        due.is("count(3)", x.count(3), 1);
    }

    private static void clears(Due due) {
        ScriptLanguage x = new ScriptLanguage();
        for (int round = 0; round < 2; round++) {
            x.column('A', 0, false);
            x.column('C', 2, true);
            x.cell(0, 0, 3);
            x.cellRow(0, 1, 3);
            x.rule(true);
            Texts.read(x, "A=1;");
            Texts.read(x, "give 1/0;");
            x.run(0, 9);
            Texts.read(x, "give A;");
            x.run(0, 9);
            Texts.put(x, "stop;");
            due.is("clear()", x.clear(), 2);
            FaceTest.newObject(due, x);
            x.run(0, 9);
            x.column('A', 1, true);
            x.column('C', 3, true);
            due.is("a cell behind clear()", x.holds(0, 0), ScriptLanguage.NONE);
            due.is("a row behind clear()", x.holds(0, 1), ScriptLanguage.NONE);
            due.is("a column's kind behind clear()", x.cell(0, 0, 1500), 1);
            due.isReal("real", x.real(0, 0), 1.5);
            due.is("a column may be written behind clear()", Texts.read(x, "A=A+1.5;give A;"), 2);
            due.is("run", x.run(0, 9), 3);
            due.isReal("gaveReal", x.gaveReal(), 3.0);
            due.is("THE RULE is off behind clear()", x.run(1, 9), -4);
            Texts.read(x, "Z=1;");
            due.is("clear()", x.clear(), 2);
            due.is("fault(0)", x.fault(0), 0);
            due.is("fault(1)", x.fault(1), ScriptLanguage.NONE);
        }
    }

    private static void wrongNumbers(Due due) {
        int[] odd = {Integer.MIN_VALUE, -1000009, -1, 0, 7, 8, 19, 20, 21, 65, 1500, Integer.MAX_VALUE};
        String[] texts = {null, "give 1;", "A=1/0;", "?"};
        for (String text : texts) {
            for (int a : odd) {
                for (int b : odd) {
                    ScriptLanguage x = new ScriptLanguage();
                    x.column('A', 0, true);
                    x.column('C', 2, true);
                    if (text != null) {
                        Texts.read(x, text);
                    }
                    callAll(x, a, b);
                    callAll(x, b, a);
                    due.is("an object of 20", x.count(2) % 20, 0);
                }
            }
        }
    }

    /** Nothing may reach the caller, whatever the numbers are. */
    private static void callAll(ScriptLanguage x, int a, int b) {
        x.end(a);
        x.feed(a, b, a, b, a);
        x.cell(a, b, a);
        x.cellRow(a, 1, b);
        x.cellRow(0, 1, b);
        x.cellPut(0, 1, a, b);
        x.cellPut(a, b, a, b);
        x.at(0, 1, a);
        x.at(a, b, a);
        x.same(a, b, b, a);
        x.holds(a, b);
        x.whole(a, b);
        x.real(a, b);
        x.run(a, b);
        x.run(0, b);
        x.fault(a);
        x.count(a);
        x.column(a, b, true);
        x.miss(a, b);
        x.read();
        x.end(0);
    }
}
