/** The edges of "2 RUN" as to what FAILS, and of promises 5 rule and 17 run: a method for each sentence. */
public final class FailBoundsTest {
    private static final int NONE = Stage.NONE, LEAST = Stage.LEAST, GREATEST = Stage.GREATEST;
    // All that can be written is, and some of it twice, ahead of what fails.
    private static final String CHANGES = "A=1;B=1.5;C[1]=8;C[1]=9;D=C;C=row(2);C[0]=3;D=5;A=2;D=C;D=2.5;let r=C;r[1]=4;C=row(20);D=H;B=-B;";
    private final Due due = new Due("FailBoundsTest");
    private final Stage on = new Stage(due);

    private FailBoundsTest() {
    }

    public static void main(String[] args) {
        FailBoundsTest test = new FailBoundsTest();
        test.byZero();
        test.notByZero();
        test.index();
        test.indexOfPlace();
        test.missingColumns();
        test.missingPlace();
        test.theRule();
        test.ruleCalls();
        test.missingAnyOfWord();
        test.casts();
        test.size();
        test.tooLong();
        test.rowOf();
        test.less();
        test.failedRuns();
        test.cellsAsTheyWere();
        test.rowsAsTheyWere();
        test.spentAnywhere();
        test.manyChanges();
        test.earlierRunsStay();
        test.earlierChangesStay();
        test.nothingIsLeft();
        test.localsAreNew();
        test.due.close();
    }

    private void byZero() {
        due.sentence("1 ARITHMETIC: / or % of WHOLES by 0");
        int[] numbers = {LEAST, -1, 0, 1, GREATEST};
        for (int number : numbers) {
            on.script("A=A / 0;");
            on.x.cell(0, 0, number);
            on.failsNow(number + "/0", 400, Stage.ARITHMETIC, 4);
            due.is("whole()", on.x.whole(0, 0), number);
            on.script("A=A %(1-1);");
            on.x.cell(0, 0, number);
            on.failsNow(number + "%0", 400, Stage.ARITHMETIC, 4);
        }
    }

    private void notByZero() {
        due.sentence("/ or % of WHOLES (by all but 0, and REALS by 0.0, FAIL by nothing)");
        int[] by = {LEAST, -2, -1, 1, 2, GREATEST};
        int[] numbers = {LEAST, LEAST + 1, -7, -1, 0, 1, 7, GREATEST};
        for (int divisor : by) {
            for (int number : numbers) {
                on.script("let d=A;let n=whole(D);D=n%d;give n/d;");
                on.x.cell(0, 0, divisor);
                on.x.cell(0, 3, number);
                int quotient = (int) ((long) number / divisor);
                on.givesNow(number + "/" + divisor, quotient);
                due.is("whole() of " + number + "%" + divisor, on.x.whole(0, 3), (int) ((long) number % divisor));
            }
        }
        on.givesReal("give 1.5/0.0;", Double.POSITIVE_INFINITY);
        on.givesReal("give -1.5/0.0;", Double.NEGATIVE_INFINITY);
        on.givesReal("give 0.0/0.0;", 0.0);
        on.givesReal("give 1.5%0.0;", 0.0);
    }

    private void index() {
        due.sentence("2 INDEX: [ ] beyond the ROW");
        for (int n = 0; n <= 20; n++) {
            int[] places = {LEAST, -1, 0, n - 1, n, n + 1, 20, GREATEST};
            for (int i : places) {
                on.script("give C [A];");
                on.x.cellRow(0, 2, n);
                on.x.cell(0, 0, i);
                if (i >= 0 && i < n) {
                    on.x.cellPut(0, 2, i, 60 + i);
                    on.givesNow("C[" + i + "] of " + n, 60 + i);
                } else {
                    on.failsNow("C[" + i + "] of " + n, 400, Stage.INDEX, 7);
                }
            }
        }
        on.fails("let r=row(2);A=r[2];", Stage.INDEX, 16);
        on.fails("let r=row(0);A=r[0];", Stage.INDEX, 16);
    }

    private void indexOfPlace() {
        due.sentence("2 INDEX: [ ] beyond the ROW (of a place)");
        for (int n = 0; n <= 20; n++) {
            int[] places = {LEAST, -1, 0, n - 1, n, n + 1, 20, GREATEST};
            for (int i : places) {
                on.script("C [A]=77;");
                on.x.cellRow(0, 2, n);
                on.x.cell(0, 0, i);
                if (i >= 0 && i < n) {
                    due.is("run() of C[" + i + "]=77; of " + n, on.x.run(0, 9), 0);
                    due.is("at()", on.x.at(0, 2, i), 77);
                } else {
                    on.failsNow("C[" + i + "]=77; of " + n, 400, Stage.INDEX, 2);
                }
                for (int k = 0; k < n; k++) {
                    due.is("at(" + k + ")", on.x.at(0, 2, k), k == i ? 77 : 0);
                }
            }
        }
    }

    private void missingColumns() {
        due.sentence("3 NULL: a COLUMN that is read and MISSING (at it)");
        on.fails("A= E;", Stage.NULL, 3);
        on.fails("B= F;", Stage.NULL, 3);
        on.fails("C= G;", Stage.NULL, 3);
        on.fails("A=G[0];", Stage.NULL, 2);
        on.fails("A=size(G);", Stage.NULL, 7);
        on.fails("C=asrow(G);", Stage.NULL, 8);
        on.fails("A=whole(E);", Stage.NULL, 8);
        on.fails("B=real(F);", Stage.NULL, 7);
        on.fails("let g=G;", Stage.NULL, 6);
        on.fails("D=E;", Stage.NULL, 2);
        on.fails("D=F;", Stage.NULL, 2);
        on.fails("D=G;", Stage.NULL, 2);
        on.fails("if E{}", Stage.NULL, 3);
        on.fails("repeat E{}", Stage.NULL, 7);
        on.fails("give F;", Stage.NULL, 5);
        on.fails("A=-E;", Stage.NULL, 3);
        on.fails("A=C[E];", Stage.NULL, 4);
        // What is only written may be missing.
        on.script("A=1;B=1.5;C=row(0);D=1;");
        due.is("run() over an OBJECT that has nothing", on.x.run(5, 9), 0);
        due.is("count(1)", on.x.count(1), 7);
        on.ends("if 0{A=E;}");
    }

    private void missingPlace() {
        due.sentence("3 NULL: of a place with [ ], too");
        String[] texts = {"C[0]=1;", "C[9]=1;", "C[1/0]=1;", "C[0]=1/0;"};
        for (String text : texts) {
            on.script(" " + text);
            on.x.miss(0, 2);
            on.failsNow(text, 400, Stage.NULL, 1);
            due.is("taken(): ahead of all that is behind it", on.x.taken(), 1);
            on.x.rule(true);
            on.failsNow(text + " by THE RULE", 400, Stage.NULL, 1);
            due.is("holds()", on.x.holds(0, 2), NONE);
        }
    }

    private void theRule() {
        due.sentence("by THE RULE one of WHOLES, REALS is 0, 0.0 instead");
        String[] zero = {"give E;", "give E+5-5;", "give whole(F);", "give F~0.0;", "give whole(real(E));", "if E{give 1;}give 0;"};
        int[] wholes = {0, 0, 0, 1, 0, 0};
        for (int i = 0; i < zero.length; i++) {
            on.script(zero[i]);
            on.x.rule(true);
            on.givesNow(zero[i], wholes[i]);
            due.is("holds(): it is MISSING all the same", on.x.holds(0, 4), NONE);
            due.is("holds(): it is MISSING all the same", on.x.holds(0, 5), NONE);
            on.x.rule(false);
            due.is("run() without THE RULE", on.x.run(0, 400), -4);
        }
        String[] none = {"C=G;", "A=G[0];", "A=size(G);", "A=whole(H);", "B=real(H);", "C=asrow(H);"};
        for (String text : none) {
            on.script(text);
            on.x.rule(true);
            due.is("run() of " + text + " by THE RULE", on.x.run(0, 400), -4);
        }
        on.script("give 1.0/F;");
        on.x.rule(true);
        due.is("run()", on.x.run(0, 9), 3);
        due.isReal("gaveReal(): it is 0.0, not -0.0", on.x.gaveReal(), Double.POSITIVE_INFINITY);
        on.script("A=1/E;");
        on.x.rule(true);
        on.failsNow("1/E by THE RULE", 9, Stage.ARITHMETIC, 3);
    }

    private void ruleCalls() {
        due.sentence("rule: (on), or FAIL (at first): 1 if it was on, else 0");
        ScriptLanguage x = new ScriptLanguage();
        boolean[] calls = {false, false, true, true, false, true, false, false};
        int[] answers = {0, 0, 0, 1, 1, 0, 1, 0};
        for (int i = 0; i < calls.length; i++) {
            due.is("rule() number " + i, x.rule(calls[i]), answers[i]);
        }
        on.script("A=E;");
        due.is("run() at first", on.x.run(0, 9), -4);
        on.x.rule(true);
        due.is("run() by THE RULE", on.x.run(0, 9), 0);
        Texts.read(on.x, "A=E;");
        due.is("run() behind read(): THE RULE stays", on.x.run(0, 9), 0);
    }

    private void missingAnyOfWord() {
        due.sentence("3 NULL: a word whose ANY is MISSING");
        on.fails("A= whole(D);", Stage.NULL, 3);
        on.fails("B= real(D);", Stage.NULL, 3);
        on.fails("C= asrow(D);", Stage.NULL, 3);
        on.fails("let d=D;A=whole(d);", Stage.NULL, 10);
        on.fails("let d=D;D=1;B=real((d));", Stage.NULL, 14);
        on.fails("let d=D;d=D;C=asrow(d);", Stage.NULL, 14);
        due.sentence("An ANY read may be MISSING (nothing FAILS by that)");
        on.ends("D=D;");
        on.ends("let d=D;d=D;D=d;");
        due.is("holds()", on.x.holds(0, 3), NONE);
        on.script("let d=D;D=1;D=d;");
        on.x.cell(0, 3, 5);
        due.is("run()", on.x.run(0, 9), 0);
        due.is("whole()", on.x.whole(0, 3), 5);
        on.script("let d=H;D=1;D=d;");
        on.x.cell(0, 3, 5);
        due.is("run()", on.x.run(0, 9), 0);
        due.is("holds(): what is MISSING came to it", on.x.holds(0, 3), NONE);
        due.is("count(1)", on.x.count(1), 3);
    }

    private void casts() {
        due.sentence("4 CAST: a word whose ANY holds another KIND");
        String[] words = {"D=whole(D);", "D=real(D);", "D=asrow(D);"};
        String[] holds = {"D=7;", "D=B;", "D=C;"};
        for (int word = 0; word < 3; word++) {
            for (int kind = 0; kind < 3; kind++) {
                String text = holds[kind] + words[word];
                if (word == kind) {
                    on.ends(text);
                    due.is("holds() behind " + text, on.x.holds(0, 3), kind);
                } else {
                    on.fails(text, Stage.CAST, 6);
                }
            }
        }
        on.gives("D=7;give whole(D);", 7);
        on.givesReal("D=B;give real(D);", 2.5);
        on.gives("D=C;give size(asrow(D));", 3);
        // Just that kind: a whole is no real there, and a real no whole, though outside of an any they would do.
        on.fails("D=0;give real(D);", Stage.CAST, 9);
        on.fails("D=0.0;give whole(D);", Stage.CAST, 11);
        on.givesReal("give real(7);", 7.0);
        on.gives("give whole(7.9);", 7);
    }

    private void size() {
        due.sentence("5 SIZE: row of less than 0");
        int[] wrong = {LEAST, LEAST + 1, -21, -1};
        for (int n : wrong) {
            on.script("C= row(A);");
            on.x.cell(0, 0, n);
            on.failsNow("row(" + n + ")", 400, Stage.SIZE, 3);
            due.is("whole(): the ROW before it", on.x.whole(0, 2), 3);
        }
        on.gives("C=row(0);give size(C);", 0);
        on.gives("C=row(-0);give size(C);", 0);
    }

    private void tooLong() {
        due.sentence("7 TOO LONG: row above 20");
        int[] wrong = {21, 22, 276, 65556, GREATEST};
        for (int n : wrong) {
            on.script("C= row(A);");
            on.x.cell(0, 0, n);
            on.failsNow("row(" + n + ")", 400, Stage.TOO_LONG, 3);
            due.is("whole(): the ROW before it", on.x.whole(0, 2), 3);
        }
        on.gives("C=row(20);C[19]=5;give size(C)*10+C[19];", 205);
    }

    private void rowOf() {
        due.sentence("row(n) is a new ROW of 0s");
        for (int n = 0; n <= 20; n++) {
            on.ends("C=row(" + n + ");D=row(" + n + ");");
            due.is("whole()", on.x.whole(0, 2), n);
            due.is("same() of two new ones", on.x.same(0, 2, 0, 3), 0);
            for (int i = 0; i < n; i++) {
                due.is("at(" + i + ")", on.x.at(0, 2, i), 0);
                on.x.cellPut(0, 2, i, 5);
                on.x.cellPut(0, 3, i, 6);
            }
            due.is("run() again", on.x.run(0, 9), 0);
            for (int i = 0; i < n; i++) {
                due.is("at(" + i + ") of the next one", on.x.at(0, 2, i), 0);
                due.is("at(" + i + ") of the one behind it", on.x.at(0, 3, i), 0);
            }
        }
    }

    private void less() {
        due.sentence("run: -1 less what FAILED");
        String[] texts = {"A=1/0;", "A=C[3];", "A=E;", "D=1;B=real(D);", "C=row(-1);", "repeat 400{}", "C=row(21);"};
        for (int i = 0; i < texts.length; i++) {
            on.script(texts[i]);
            due.is("run() of " + texts[i], on.x.run(0, 400), -2 - i);
        }
    }

    private void failedRuns() {
        due.sentence("count: runs that FAILED since the beginning (3)");
        String[] texts = {"A=1/0;", "A=C[3];", "A=E;", "D=1;B=real(D);", "C=row(-1);", "repeat 400{}", "C=row(21);"};
        ScriptLanguage x = Stage.set();
        int failed = 0;
        for (String text : texts) {
            Texts.read(x, text);
            due.is("count(3)", x.count(3), failed);
            x.run(0, 400);
            failed++;
            due.is("count(3) behind " + text, x.count(3), failed);
            x.run(0, 401);
            x.run(20, 400);
            due.is("count(3) behind runs that are refused", x.count(3), failed);
            Texts.read(x, "?");
            x.run(0, 1);
            due.is("count(3) behind a FAULT", x.count(3), failed);
            Texts.read(x, "give 1;");
            x.run(0, 1);
            due.is("count(3) behind one that did not FAIL", x.count(3), failed);
        }
        x.column('Z', 0, true);
        due.is("count(3)", x.count(3), 7);
    }

    private void set(ScriptLanguage x, String text) {
        Stage.fill(x);
        x.cell(1, 0, 5);
        x.cellRow(1, 2, 20);
        x.cellRow(1, 3, 4);
        x.cell(19, 3, -1);
        Texts.read(x, text);
    }

    private void unchanged(String text, int object, int steps) {
        Probe.Calls before = x -> set(x, text);
        Probe.Calls behind = x -> {
            set(x, text);
            x.run(object, steps);
        };
        ScriptLanguage x = Probe.made(before);
        due.is("fault(1) of " + text, x.fault(1), NONE);
        int outcome = x.run(object, steps);
        due.is("run() of " + text + " FAILS", outcome <= -2 && outcome >= -8 ? 1 : 0, 1);
        due.isText("all CELLS behind " + text, Probe.cells(behind), Probe.cells(before));
    }

    private void cellsAsTheyWere() {
        due.sentence("When a RUN FAILS, all CELLS and ROWS are as they were");
        String[] texts = {"A=1/0;", "A=C[20];", "A=E;", "D=1;B=real(D);", "C=row(-1);", "repeat 400{A=A+1;}", "C=row(21);"};
        for (String text : texts) {
            unchanged(CHANGES + text, 0, 400);
            unchanged("if 1{repeat 2{" + CHANGES.replace("let r=C;r[1]=4;", "") + "}" + text + "}", 0, 400);
            unchanged("C=row(3);" + CHANGES + text, 1, 400);
            unchanged("A=1;B=1.5;C=row(3);D=C;C[0]=2;" + text, 7, 400);
        }
    }

    private void rowsAsTheyWere() {
        due.sentence("all ROWS are as they were (which hold the same, too)");
        on.script("D=C;");
        on.x.run(0, 9);
        Texts.read(on.x, "C[0]=1;let r=asrow(D);r[1]=2;C=row(3);C[2]=3;r[2]=4;D=row(1);C=r;r[0]=5;A=1/0;");
        for (int n = 0; n < 3; n++) {
            due.is("run()", on.x.run(0, 99), -2);
            due.is("same()", on.x.same(0, 2, 0, 3), 1);
            due.is("whole()", on.x.whole(0, 2), 3);
            due.is("at(0)", on.x.at(0, 2, 0), 0);
            due.is("at(1)", on.x.at(0, 3, 1), 7);
            due.is("at(2)", on.x.at(0, 2, 2), 0);
        }
        Texts.read(on.x, "C=row(3);D=row(3);A=1/0;");
        on.x.run(0, 99);
        due.is("same() behind new ROWS of a run that FAILED", on.x.same(0, 2, 0, 3), 1);
        due.is("at(1)", on.x.at(0, 2, 1), 7);
    }

    private void spentAnywhere() {
        due.sentence("When a RUN FAILS (SPENT, at whichever STEP), all CELLS and ROWS are as they were");
        String text = CHANGES + "stop;";
        ScriptLanguage x = Probe.made(y -> set(y, text));
        due.is("run()", x.run(0, 400), 1);
        int steps = x.taken();
        due.is("taken()", steps, 24);
        for (int n = 1; n < steps; n++) {
            unchanged(text, 0, n);
        }
    }

    private void manyChanges() {
        due.sentence("all ROWS are as they were (however often they were changed)");
        String[] texts = {"repeat 199{C[0]=C[0]+1;}", Texts.times("C[0]=1;C[1]=2;C[2]=3;", 67), "let r=C;repeat 400{r[1]=r[1]+1;}",
            "repeat 130{C[2]=5;}A=1/0;", "repeat 399{C=row(20);}", "repeat 60{C=row(3);C[0]=C[0]+1;}"};
        for (String text : texts) {
            on.script(text);
            int outcome = on.x.run(0, 400);
            due.is("run() of " + text + " FAILS", outcome <= -2 && outcome >= -8 ? 1 : 0, 1);
            due.is("whole()", on.x.whole(0, 2), 3);
            due.is("at(0) behind " + text, on.x.at(0, 2, 0), 0);
            due.is("at(1) behind " + text, on.x.at(0, 2, 1), 7);
            due.is("at(2) behind " + text, on.x.at(0, 2, 2), 0);
        }
    }

    private void earlierRunsStay() {
        due.sentence("as they were (ahead of this RUN, not of those before it)");
        on.script("C[0]=C[0]+1;A=A-1;D=C;B=1.5/1.5;A=A/A*A;");
        due.is("run()", on.x.run(0, 99), 0);
        due.is("run()", on.x.run(0, 99), 0);
        due.is("run()", on.x.run(0, 99), 0);
        due.is("run() that FAILS", on.x.run(0, 99), -2);
        due.is("whole()", on.x.whole(0, 0), 1);
        due.is("at()", on.x.at(0, 2, 0), 3);
        due.is("same()", on.x.same(0, 2, 0, 3), 1);
        on.x.cell(0, 0, 9);
        due.is("run() behind it", on.x.run(0, 99), 0);
        due.is("at()", on.x.at(0, 2, 0), 4);
    }

    private void earlierChangesStay() {
        due.sentence("as they were (what a RUN before it changed more of is not taken back)");
        String[] before = {"C[0]=1;C[1]=2;C[2]=3;C[0]=4;C[1]=5;", "let r=C;repeat 50{r[2]=r[2]+1;}C[1]=6;", "C=row(3);C[0]=1;C[0]=2;D=C;C[2]=8;"};
        String[] fails = {"A=1/0;", "C[0]=9;A=1/0;", "C[2]=9;C[2]=8;A=1/0;", "D=row(2);C[1]=9;C=row(1);A=1/0;"};
        for (String first : before) {
            for (String second : fails) {
                Probe.Calls one = x -> {
                    set(x, first);
                    x.run(0, 400);
                    Texts.read(x, second);
                };
                Probe.Calls both = x -> {
                    one.on(x);
                    x.run(0, 400);
                };
                due.is("run() of " + second, Probe.made(one).run(0, 400), -2);
                due.isText("all CELLS behind " + first + " and " + second, Probe.cells(both), Probe.cells(one));
            }
        }
    }

    /** A run that breaks off, often, where much is still open, leaves nothing of that to later runs. */
    private void nothingIsLeft() {
        due.sentence("A RUN (has nothing of another RUN, however that ended)");
        String open = Texts.times("1+(", 20);
        String close = Texts.times(")", 20);
        String repeats = Texts.times("repeat 2{", 18);
        String braces = Texts.times("}", 18);
        String[] texts = {"A=" + open + "1/0" + close + ";", "A=" + open + "E" + close + ";", repeats + "A=1/0;" + braces,
            repeats + "stop;" + braces, repeats + "give 1;" + braces};
        int[] outcomes = {-2, -4, -2, 1, 2};
        for (int i = 0; i < texts.length; i++) {
            on.script(texts[i]);
            for (int n = 0; n < 30; n++) {
                due.is("run() " + n + " of " + texts[i], on.x.run(0, 400), outcomes[i]);
            }
            Texts.read(on.x, "let n=0;" + repeats.replace('2', '1') + "repeat 2{n=n+1;}" + braces + "give n*10+(1+(1+(1+(1+C[1]))));");
            on.givesNow("behind " + texts[i], 31);
        }
    }

    private void localsAreNew() {
        due.sentence("'let' (a LOCAL has what its exp is, in each RUN and round anew)");
        on.gives("let n=1;n=n+1;A=n;give A;", 2);
        on.givesNow("once more", 2);
        on.gives("let s=0;repeat 3{let n=1;n=n+1;s=s+n;}give s;", 6);
        on.gives("let s=0;repeat 2{let r=row(1);r[0]=r[0]+1;s=s+r[0];}give s;", 2);
    }
}
