/** Promises 15 read and 16 fault: FAULTS 2 to 5, which is told of several, and the KINDS of exps. */
public final class KindsTest {
    private final Due due = new Due("KindsTest");
    private ScriptLanguage x;

    private KindsTest() {
    }

    public static void main(String[] args) {
        KindsTest test = new KindsTest();
        test.lets();
        test.names();
        test.signs();
        test.brackets();
        test.words();
        test.wanted();
        test.places();
        test.writing();
        test.least();
        test.misfits();
        test.due.close();
    }

    /** A whole, B real, C row, D any; E to H the same, which scripts may not write. */
    private void fresh() {
        x = new ScriptLanguage();
        for (int i = 0; i < 8; i++) {
            x.column('A' + i, i % 4, i < 4);
        }
    }

    private void fits(String text) {
        fresh();
        due.is("fault of " + text, Texts.read(x, text) < 0 ? x.fault(0) * 10000 + x.fault(1) : 0, 0);
    }

    private void faults(String text, int fault, int place) {
        fresh();
        due.is("read of " + text, Texts.read(x, text), -10 - fault);
        due.is("fault(0) of " + text, x.fault(0), fault);
        due.is("fault(1) of " + text, x.fault(1), place);
        due.is("count(4) of " + text, x.count(4), 0);
    }

    private void lets() {
        faults("let a=1;let a=2;", 2, 12);
        faults("let a=1;if 1{let a=2;}", 2, 17);
        fits("if 1{let a=1;}let a=2.5;");
        fits("if 1{let a=1;}else{let a=2.5;}");
        fits("repeat 2{let a=1;}repeat 2{let a=2.5;B=a;}");
        String eight = "let a=1;let b=1;let c=1;let d=1;let e=1;let f=1;let g=1;let h=1;";
        fits(eight);
        faults(eight + "let i=1;", 2, 68);
        faults("if 1{" + eight + "let i=1;}", 2, 73);
        fits("if 1{" + eight + "}let i=1;");
        faults("let z=1;if 1{" + eight + "}", 2, 73);
        fits("let ab=1;let a=1;let b=1;let abcdefgh=1;let abcdefg=1;");
    }

    private void names() {
        faults("a=1;", 3, 0);
        faults("A=a;", 3, 2);
        faults("let a=a;", 3, 6);
        faults("if 1{let a=1;}A=a;", 3, 16);
        faults("if 1{let a=1;}else{A=a;}", 3, 21);
        faults("A=1;let b=1;A=c;", 3, 14);
        faults("Z=1;", 3, 0);
        faults("A=1+Z;", 3, 4);
        faults("Z[0]=1;", 3, 0);
        faults("z[0]=1;", 3, 0);
        faults("give Z;", 3, 5);
        fits("let a=1;if a{a=2;repeat a{a=3;}}A=a;");
    }

    private void signs() {
        String[] signs = {"+", "-", "*", "/", "%", "<", "~"};
        for (String sign : signs) {
            boolean compares = sign.equals("<") || sign.equals("~");
            fits("A=A" + sign + "1;");
            fits((compares ? "A" : "B") + "=B" + sign + "1.5;");
            faults((compares ? "B" : "A") + "=B" + sign + "1.5;", 4, 1);
            faults("B=B" + sign + "1;", 4, 3);
            faults("A=1" + sign + "2.5;", 4, 3);
            faults("A=C" + sign + "C;", 4, 3);
            faults("A=D" + sign + "D;", 4, 3);
            faults("A=1" + sign + "D;", 4, 3);
            faults("A=C" + sign + "1;", 4, 3);
        }
        fits("A=-A;B=-B;");
        faults("A=-C;", 4, 2);
        faults("A=-D;", 4, 2);
        faults("A=-B;", 4, 1);
        faults("A=1+2*3.5;", 4, 5);
    }

    private void brackets() {
        fits("A=C[A];");
        fits("let r=C;A=r[0];r[0]=A;");
        faults("A=A[0];", 4, 3);
        faults("A=B[0];", 4, 3);
        faults("A=D[0];", 4, 3);
        faults("A=C[1.5];", 4, 3);
        faults("A=C[C];", 4, 3);
        faults("A=C[D];", 4, 3);
        faults("B=C[0];", 4, 1);
        faults("D[0]=1;", 4, 1);
        faults("A[0]=1;", 4, 1);
        faults("C[1.5]=1;", 4, 1);
        faults("C[0]=1.5;", 4, 4);
        faults("C[0]=D;", 4, 4);
        faults("C[0]=C;", 4, 4);
        faults("let a=1;a[0]=1;", 4, 9);
    }

    private void words() {
        fits("A=size(C);C=row(A);A=whole(A)+whole(B)+whole(D);B=real(A)+real(B)+real(D);C=asrow(C);C=asrow(D);");
        String[] notSize = {"A", "B", "D"};
        for (String name : notSize) {
            faults("A=size(" + name + ");", 4, 2);
        }
        String[] notRow = {"B", "C", "D"};
        for (String name : notRow) {
            faults("C=row(" + name + ");", 4, 2);
        }
        faults("A=whole(C);", 4, 2);
        faults("B=real(C);", 4, 2);
        faults("C=asrow(A);", 4, 2);
        faults("C=asrow(B);", 4, 2);
        faults("B=size(C);", 4, 1);
        faults("A=row(1);", 4, 1);
        faults("B=whole(B);", 4, 1);
        faults("A=real(A);", 4, 1);
        faults("D=asrow(D)+1;", 4, 10);
    }

    private void wanted() {
        fits("if A{}repeat A{}give A;give B;");
        faults("if B{}", 4, 3);
        faults("if (B){}", 4, 3);
        faults("if D{}", 4, 3);
        faults("if 1.5+B{}", 4, 3);
        faults("repeat 2.5{}", 4, 7);
        faults("repeat C{}", 4, 7);
        faults("repeat -B{}", 4, 7);
        faults("give C;", 4, 5);
        faults("give D;", 4, 5);
        faults("give row(1);", 4, 5);
        faults("give  (C);", 4, 6);
        fits("give B<B;");
    }

    private void places() {
        faults("A=1.5;", 4, 1);
        faults("A=C;", 4, 1);
        faults("A=D;", 4, 1);
        faults("B =1;", 4, 2);
        faults("B=D;", 4, 1);
        faults("C=1;", 4, 1);
        faults("C=D;", 4, 1);
        fits("D=1;D=1.5;D=C;D=D;");
        fits("let a=D;a=1;a=1.5;a=C;a=D;D=a;");
        faults("let a=D;A=a;", 4, 9);
        faults("let a=1;a=1.5;", 4, 9);
        faults("let a=1.5;a=1;", 4, 11);
        faults("let a=C;a=D;", 4, 9);
        fits("let a=C;a=row(2);C=a;let b=1.5;b=B;let c=1<2;c=A;");
    }

    private void writing() {
        faults("E=1;", 5, 0);
        faults("F=1.5;", 5, 0);
        faults("G=C;", 5, 0);
        faults("H=1;", 5, 0);
        faults("G[0]=1;", 5, 0);
        faults("A=1; E=1;", 5, 5);
        fits("A=E;B=F;C=G;D=H;A=G[0];");
        // A local that holds the row is no place of the column.
        fits("let r=G;r[0]=1;");
    }

    private void least() {
        faults("A=1.5;a=1;", 4, 1);
        faults("a=1;A=1.5;", 3, 0);
        faults("E=1.5;", 5, 0);
        faults("E[0]=1;", 5, 0);
        faults("E=x;", 5, 0);
        faults("let a=1;let a=x;", 2, 12);
        faults("A=1;E=1;let a=1;let a=1;", 5, 4);
        faults("if B{x=1;}", 4, 3);
        faults("if x{A=1.5;}", 3, 3);
        // The [ and the sign stand ahead of what is not seen.
        faults("A=A[x];", 4, 3);
        faults("A=C+x;", 4, 3);
        faults("A=x+C;", 3, 2);
    }

    private void misfits() {
        // Only what does not fit is told: all around it fits.
        faults("B=size(x);", 3, 7);
        faults("B=1+x;", 3, 4);
        faults("B=C[x];", 3, 4);
        faults("A=row(x);", 3, 6);
        faults("if 1.5+1{}", 4, 6);
        faults("give C[1.5];", 4, 6);
        faults("A=1.5*(1+2.5);", 4, 8);
        faults("C=-x;", 3, 3);
        faults("A=1<(2.5+1);", 4, 8);
        faults("A=1.5+(1+2.5);", 4, 8);
        faults("A=-(C+1);", 4, 5);
        faults("C=whole(row(1.5));", 4, 8);
        faults("A=asrow(size(1));", 4, 8);
    }
}
