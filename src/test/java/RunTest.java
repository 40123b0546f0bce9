/** Promises 17 run, 18 gave, 19 gaveReal, 20 place, 21 taken: outcomes, the order of things, and steps. */
public final class RunTest {
    private static final int NONE = ScriptLanguage.NONE;
    private final Due due = new Due("RunTest");
    private ScriptLanguage x;

    private RunTest() {
    }

    public static void main(String[] args) {
        RunTest test = new RunTest();
        test.codes();
        test.outcomes();
        test.latest();
        test.wholes();
        test.branches();
        test.locals();
        test.rows();
        test.anys();
        test.steps();
        test.spent();
        test.objects();
        test.due.close();
    }

    /** A whole 4, B real 2.5, C row 0 7 0, D any missing. */
    private void fresh(String text) {
        x = new ScriptLanguage();
        x.column('A', 0, true);
        x.column('B', 1, true);
        x.column('C', 2, true);
        x.column('D', 3, true);
        x.cell(0, 0, 4);
        x.cell(0, 1, 2500);
        x.cellRow(0, 2, 3);
        x.cellPut(0, 2, 1, 7);
        due.is("read of " + text, Texts.read(x, text) < 0 ? x.fault(1) : NONE, NONE);
    }

    private void gives(String text, int whole) {
        fresh(text);
        due.is("run of " + text, x.run(0, 400), 2);
        due.is("gave of " + text, x.gave(), whole);
        due.isReal("gaveReal of " + text, x.gaveReal(), 0.0);
        due.is("place of " + text, x.place(), NONE);
    }

    private void takes(String text, int steps) {
        fresh(text);
        due.is("run of " + text, x.run(0, 400) < 0 ? 1 : 0, 0);
        due.is("taken of " + text, x.taken(), steps);
        fresh(text);
        due.is("run with just as many of " + text, x.run(0, steps) < 0 ? 1 : 0, 0);
    }

    private void codes() {
        fresh("stop;");
        due.is("run(-1)", x.run(-1, 1), ScriptLanguage.UNKNOWN);
        due.is("run(20)", x.run(20, 1), ScriptLanguage.UNKNOWN);
        due.is("run(20, 0): UNKNOWN comes first", x.run(20, 0), ScriptLanguage.UNKNOWN);
        due.is("run(0, 0)", x.run(0, 0), ScriptLanguage.OUTSIDE);
        due.is("run(0, 401)", x.run(0, 401), ScriptLanguage.OUTSIDE);
        due.is("run(0, 400)", x.run(0, 400), 1);
        due.is("run(19, 1)", x.run(19, 1), 1);
        x.clear();
        due.is("run without a script", x.run(0, 1), ScriptLanguage.STATE);
        due.is("run(0, 0) without a script: OUTSIDE comes first", x.run(0, 0), ScriptLanguage.OUTSIDE);
    }

    private void outcomes() {
        fresh("A=1;");
        due.is("an end", x.run(0, 9), 0);
        fresh("A=1;stop;A=2;");
        due.is("a stop", x.run(0, 9), 1);
        due.is("A", x.whole(0, 0), 1);
        due.is("taken", x.taken(), 2);
        fresh("A=1;give 5;A=2;");
        due.is("a whole", x.run(0, 9), 2);
        due.is("gave", x.gave(), 5);
        due.is("A", x.whole(0, 0), 1);
        fresh("if 1{repeat 3{give B;}}A=2;");
        due.is("a real", x.run(0, 9), 3);
        due.is("gave", x.gave(), 0);
        due.isReal("gaveReal", x.gaveReal(), 2.5);
        due.is("A", x.whole(0, 0), 4);
        fresh("repeat 3{repeat 3{stop;}}");
        due.is("a stop deep inside", x.run(0, 9), 1);
    }

    private void latest() {
        fresh("if A{give A;}give B/(B-2.5)*0.0+real(1/A);");
        due.is("run", x.run(0, 50), 2);
        due.is("gave", x.gave(), 4);
        due.is("run that is refused", x.run(0, 0), ScriptLanguage.OUTSIDE);
        due.is("gave of the latest run that was one", x.gave(), 4);
        due.is("taken of it", x.taken(), 2);
        x.cell(0, 0, 0);
        due.is("run that fails", x.run(0, 50), -2);
        due.is("gave behind one that failed", x.gave(), 0);
        due.is("place", x.place(), 38);
        due.is("taken", x.taken(), 6);
        x.run(20, 5);
        due.is("place behind one that is refused", x.place(), 38);
        Texts.read(x, "give 1.25;");
        due.is("place behind read()", x.place(), 38);
        x.run(0, 5);
        due.is("place behind one that did not fail", x.place(), NONE);
        due.isReal("gaveReal", x.gaveReal(), 1.25);
        Texts.read(x, "stop;");
        x.run(0, 5);
        due.isReal("gaveReal behind one that gave none", x.gaveReal(), 0.0);
        due.is("taken", x.taken(), 1);
    }

    private void wholes() {
        gives("give 999999999*10;", (int) 9999999990L);
        gives("A=0-999999999-999999999-147483650;give A;", Integer.MIN_VALUE);
        gives("A=-999999999-999999999-147483650;give -A;", Integer.MIN_VALUE);
        gives("A=-999999999-999999999-147483650;give A/-1;", Integer.MIN_VALUE);
        gives("A=-999999999-999999999-147483650;give A%-1;", 0);
        gives("A=-999999999-999999999-147483650;give A-1;", Integer.MAX_VALUE);
        gives("give -7/2;", -3);
        gives("give -7%3;", -1);
        gives("give 7%-3;", 1);
        gives("give 3<3;", 0);
        gives("give 2<3;", 1);
        gives("give -3<2;", 1);
        gives("give 3~3;", 1);
        gives("give 3~4;", 0);
        gives("give A*A-A/3;", 15);
        gives("A=A+1;A=A*A;give A;", 25);
        gives("give whole(A)+whole(B);", 6);
        gives("give 1.5<2.5;", 1);
        gives("give 2.5~B;", 1);
    }

    private void branches() {
        gives("if A{give 1;}else{give 2;}", 1);
        gives("if 0{give 1;}else{give 2;}", 2);
        gives("if -1{give 1;}give 2;", 1);
        gives("if 0{give 1;}give 2;", 2);
        gives("if 1{}else{give 1;}give 2;", 2);
        gives("if 0{if 1{give 1;}}else{if 0{give 2;}else{give 3;}}", 3);
        gives("let n=0;repeat 5{n=n+2;}give n;", 10);
        gives("let n=0;repeat 0{n=n+2;}give n;", 0);
        gives("let n=0;repeat -3{n=n+2;}give n;", 0);
        gives("let n=0;repeat A{A=A+1;n=n+1;}give n*100+A;", 408);
        gives("let n=0;repeat 3{repeat 4{n=n+1;}repeat 2{n=n+100;}}give n;", 612);
        gives("let n=0;repeat 3{repeat n{n=n+1;}n=n+1;}give n;", 7);
        gives("let n=0;repeat 4{if n<2{n=n+1;}else{n=n+10;}}give n;", 22);
        gives("repeat 2{if 0{}else{}}give 9;", 9);
    }

    private void locals() {
        gives("let a=1;let b=a+1;a=b*3;give a*10+b;", 62);
        gives("let a=1;if 1{let b=5;a=b;}let c=7;give a*10+c;", 57);
        gives("let n=0;repeat 3{let k=1;k=k+n;n=k;}give n;", 3);
        gives("let a=1;let b=2;let c=3;let d=4;let e=5;let f=6;let g=7;let h=8;give a+b*10+c*100+h*1000;", 8321);
        gives("A=9;let a=A;A=1;give a;", 9);
    }

    private void rows() {
        gives("give size(C)*100+C[1]*10+C[0];", 370);
        gives("let r=C;r[0]=5;give C[0];", 5);
        gives("let r=row(2);C=r;r[1]=6;give C[1]*10+size(C);", 62);
        gives("C[0]=1;let r=row(3);give r[0]*10+C[0];", 1);
        gives("D=C;C[2]=8;C=row(1);let r=asrow(D);give r[2]*10+size(C);", 81);
        gives("C[C[1]-5]=4;give C[2];", 4);
        gives("C=row(20);C[19]=3;give C[19]*100+size(C);", 320);
        gives("C=row(0);give size(C);", 0);
        gives("let r=row(2);repeat 2{let q=r;q[1]=q[1]+1;r=row(2);r[1]=q[1]*10;}give r[1];", 110);
        fresh("C=row(2);D=C;C[0]=9;");
        due.is("run", x.run(0, 9), 0);
        due.is("same", x.same(0, 2, 0, 3), 1);
        due.is("at", x.at(0, 3, 0), 9);
        due.is("run again makes a new row", x.run(0, 9), 0);
        due.is("at", x.at(0, 3, 0), 9);
        due.is("at", x.at(0, 3, 1), 0);
        fresh("let r=C;C=row(3);r[1]=1;give C[1];");
        due.is("run", x.run(0, 20), 2);
        due.is("gave", x.gave(), 0);
    }

    private void anys() {
        gives("D=5;give whole(D);", 5);
        gives("D=2.5;give whole(real(D)*2.0);", 5);
        gives("D=C;give size(asrow(D));", 3);
        gives("D=5;let a=D;D=C;give whole(a);", 5);
        gives("D=5;let a=D;a=C;a=7;D=a;give whole(D);", 7);
        fresh("D=D;let a=D;D=1;D=a;");
        due.is("run: nothing fails by what is missing", x.run(0, 9), 0);
        due.is("holds", x.holds(0, 3), NONE);
        x.cell(0, 3, 3);
        x.run(0, 9);
        due.is("holds", x.holds(0, 3), 0);
        due.is("whole", x.whole(0, 3), 3);
        fresh("D=B;");
        x.run(0, 2);
        due.is("holds", x.holds(0, 3), 1);
        due.isReal("real", x.real(0, 3), 2.5);
        fresh("D=C;let a=D;D=row(1);D=a;");
        x.run(0, 9);
        due.is("same", x.same(0, 2, 0, 3), 1);
    }

    private void steps() {
        takes("stop;", 1);
        takes("A=1;A=A;", 2);
        takes("A=1+2*3;", 3);
        takes("A=--1;", 3);
        takes("A=((1));", 1);
        takes("A=C[1];", 2);
        takes("C[1]=1;", 2);
        takes("C[C[0]]=C[1];", 4);
        takes("A=size(C);", 2);
        takes("C=row(1);", 2);
        takes("A=whole(A)+whole(B);", 4);
        takes("B=real(A);B=real(B);", 4);
        takes("C=asrow(C);", 2);
        takes("if 1{A=1;}else{A=2;A=3;}", 2);
        takes("if 0{A=1;}else{A=2;A=3;}", 3);
        takes("if 1<2{}", 2);
        takes("repeat 3{}", 4);
        takes("repeat 0{A=1;}", 1);
        takes("repeat 1+1{A=1;A=2;}", 8);
        takes("repeat 2{repeat 2{A=1;}}", 13);
        takes("give A<1;", 2);
        takes("let a=1;", 1);
    }

    private void failsAt(String text, int steps, int place) {
        fresh(text);
        due.is("run of " + text + " with " + steps, x.run(0, steps), -7);
        due.is("place", x.place(), place);
        due.is("taken", x.taken(), steps);
    }

    private void spent() {
        failsAt("A=1; A=2;", 1, 5);
        failsAt("A=1 +2;", 1, 4);
        failsAt("A=- 1;", 1, 2);
        failsAt("A=C[0];", 1, 3);
        failsAt("C[0]=1;", 1, 1);
        failsAt("C[0]=-1;", 1, 5);
        failsAt("C[0]=-1;", 2, 1);
        failsAt("A=size(C);", 1, 2);
        failsAt("C=row(1+1);", 1, 7);
        failsAt("C=row(1+1);", 2, 2);
        failsAt(" repeat 3{}", 1, 1);
        failsAt(" repeat 3{}", 3, 1);
        failsAt("repeat 3{A=1;}", 2, 9);
        failsAt("repeat 3{A=1;}", 3, 0);
        failsAt("repeat 999999999{}", 400, 0);
        failsAt("if 1{stop;}", 1, 5);
        failsAt("A=1/0;", 1, 3);
        failsAt("A=C[9];", 1, 3);
        failsAt("C=row(-1);", 2, 2);
        failsAt("A=whole(D);", 1, 2);
        failsAt("A=1+2*3;", 1, 5);
        failsAt("A=1+2*3;", 2, 3);
        failsAt("A=(1+2)*3;", 2, 7);
    }

    private void objects() {
        fresh("A=A+1;");
        x.cell(7, 0, 70);
        x.run(7, 9);
        due.is("its own object", x.whole(7, 0), 71);
        due.is("another one", x.whole(0, 0), 4);
    }
}
