/** The edges of WHOLES, REALS, ROWS and ANYS while a script is worked out: a method for each sentence. */
public final class ValueBoundsTest {
    private static final int NONE = Stage.NONE, LEAST = Stage.LEAST, GREATEST = Stage.GREATEST;
    private static final int[] EDGES = {LEAST, LEAST + 1, -65536, -46341, -2, -1, 0, 1, 2, 46340, 46341, 65536, GREATEST - 1, GREATEST};
    private static final String TEN = "let h=214748364.0*10.0;";
    private static final String HUGE = "let h=999999999.0;repeat 6{h=h*h;}";
    private final Due due = new Due("ValueBoundsTest");
    private final Stage on = new Stage(due);

    private ValueBoundsTest() {
    }

    public static void main(String[] args) {
        ValueBoundsTest test = new ValueBoundsTest();
        test.wrapping();
        test.wrappingNegative();
        test.comparisons();
        test.itemsWrap();
        test.cuts();
        test.beyond32Bits();
        test.noNumberIsZero();
        test.noNumbersTold();
        test.noNumbersWithin();
        test.asTheLanguageDoes();
        test.tooSmallAndTooLarge();
        test.endless();
        test.greatestReal();
        test.remainders();
        test.realOfWhole();
        test.wholeOfWhole();
        test.realInAny();
        test.anyTakesAll();
        test.heldNotCopied();
        test.seenByAll();
        test.seenAtOnce();
        test.rowsOfObjects();
        test.due.close();
    }

    private void wrapping() {
        due.sentence("0 WHOLE (32 bits, wrapping): + - *");
        for (int left : EDGES) {
            for (int right : EDGES) {
                on.script("let l=A;let r=whole(D);A=l+r;C=row(1);C[0]=l-r;give l*r;");
                on.x.cell(0, 0, left);
                on.x.cell(0, 3, right);
                on.givesNow(left + "*" + right, (int) ((long) left * right));
                due.is("whole() of " + left + "+" + right, on.x.whole(0, 0), (int) ((long) left + right));
                due.is("at() of " + left + "-" + right, on.x.at(0, 2, 0), (int) ((long) left - right));
            }
        }
        on.gives("give 999999999*999999999;", (int) (999999999L * 999999999L));
        on.gives("give 999999999+999999999+999999999;", (int) (3 * 999999999L));
        on.gives("give 65536*65536;", 0);
    }

    private void wrappingNegative() {
        due.sentence("0 WHOLE (32 bits, wrapping): - of one");
        for (int number : EDGES) {
            on.script("give -A;");
            on.x.cell(0, 0, number);
            on.givesNow("-" + number, number == LEAST ? LEAST : -number);
            on.script("give --A;");
            on.x.cell(0, 0, number);
            on.givesNow("--" + number, number);
        }
    }

    private void comparisons() {
        due.sentence("< ~ WHOLE (1, 0)");
        for (int left : EDGES) {
            for (int right : EDGES) {
                on.script("let r=whole(D);give (A<r)*10+(A~r);");
                on.x.cell(0, 0, left);
                on.x.cell(0, 3, right);
                on.givesNow(left + "<" + right, (left < right ? 10 : 0) + (left == right ? 1 : 0));
            }
        }
        on.gives("give (1.5<2.5)*1000+(2.5<1.5)*100+(1.5<1.5)*10+(1.5~1.5);", 1001);
        on.gives("give (0.0~-0.0)*10+(-0.0<0.0);", 10);
    }

    private void itemsWrap() {
        due.sentence("2 ROW (of WHOLES)");
        on.script("C[0]=C[0]+C[1];give C[0];");
        on.x.cellPut(0, 2, 0, GREATEST);
        on.x.cellPut(0, 2, 1, 1);
        on.givesNow("the greatest and 1", LEAST);
        due.is("at()", on.x.at(0, 2, 0), LEAST);
    }

    private void cuts() {
        due.sentence("whole of a REAL is cut");
        String[] exps = {"0.0", "0.999999", "-0.999999", "1.0", "-1.0", "1.999999", "-1.999999", "-0.0", "999999999.999999", "-999999999.999999"};
        int[] wholes = {0, 0, 0, 1, -1, 1, -1, 0, 999999999, -999999999};
        for (int i = 0; i < exps.length; i++) {
            on.gives("give whole(" + exps[i] + ");", wholes[i]);
            on.gives("B=" + exps[i] + ";give whole(B);", wholes[i]);
            due.is("whole()", on.x.whole(0, 1), wholes[i]);
        }
    }

    private void beyond32Bits() {
        due.sentence("whole of a REAL: beyond 32 bits the nearest");
        String[] exps = {"h+6.9", "h+7.0", "h+7.9", "h+8.0", "h*2.0", "h*h", "-h-7.9", "-h-8.0", "-h-8.9", "-h-9.0", "-h*2.0", "-h*h", "1.0/0.0", "-1.0/0.0"};
        int[] wholes = {GREATEST - 1, GREATEST, GREATEST, GREATEST, GREATEST, GREATEST, LEAST + 1, LEAST, LEAST, LEAST, LEAST, LEAST, GREATEST, LEAST};
        for (int i = 0; i < exps.length; i++) {
            on.gives(TEN + "give whole(" + exps[i] + ");", wholes[i]);
            on.ends(TEN + "B=" + exps[i] + ";D=" + exps[i] + ";");
            due.is("whole() of " + exps[i], on.x.whole(0, 1), wholes[i]);
            due.is("whole() of an ANY of " + exps[i], on.x.whole(0, 3), wholes[i]);
        }
    }

    private void noNumberIsZero() {
        due.sentence("whole of a REAL: what is no number 0");
        on.gives("give whole(0.0/0.0);", 0);
        on.gives(HUGE + "give whole(h-h);", 0);
        on.gives("B=0.0/0.0;give whole(B);", 0);
        due.is("whole()", on.x.whole(0, 1), 0);
        due.is("holds()", on.x.holds(0, 1), 1);
    }

    private void noNumbersTold() {
        due.sentence("REALS that are no numbers are told as 0.0");
        String[] none = {"0.0/0.0", "-0.0/0.0", "1.5%0.0", "0.0%0.0", "h-h", "-h+h", "h/h", "h*0.0", "-0.0*h", "h%2.5", "-(0.0/0.0)", "real(0.0/0.0)"};
        for (String exp : none) {
            on.givesReal(HUGE + "give " + exp + ";", 0.0);
            on.ends(HUGE + "B=" + exp + ";D=B;");
            due.isReal("real() of " + exp, on.x.real(0, 1), 0.0);
            due.isReal("real() of an ANY of " + exp, on.x.real(0, 3), 0.0);
            due.is("holds() of it", on.x.holds(0, 3), 1);
            due.is("count(1)", on.x.count(1), 4);
        }
    }

    private void noNumbersWithin() {
        due.sentence("REALS do as the language does (what is told as 0.0 is none within)");
        String n = "let n=0.0/0.0;";
        on.gives(n + "give (n~n)*1000+(n<n)*100+(n~0.0)*10+(0.0~n);", 0);
        on.gives(n + "give (n<1.0)+(1.0<n)+(-1.0<n)+(n<-1.0);", 0);
        String[] signs = {"+", "-", "*", "/", "%"};
        for (String sign : signs) {
            on.gives(n + "let m=n" + sign + "1.5;let k=1.5" + sign + "n;give (m~m)+(k~k)+(m~1.5)+(k~1.5);", 0);
        }
        on.ends("B=0.0/0.0;");
        Texts.read(on.x, "give B~B;");
        on.givesNow("B~B in the next RUN", 0);
        Texts.read(on.x, "B=1.5;give B~1.5;");
        on.givesNow("B~1.5 when a number came to it", 1);
        due.isReal("real()", on.x.real(0, 1), 1.5);
    }

    private void asTheLanguageDoes() {
        due.sentence("REALS do as the language does: + - * / %");
        double[] numbers = {-7.5, -2.0, -0.3, -0.0, 0.0, 0.1, 0.3, 2.0, 7.5};
        String[] texts = {"-7.5", "-2.0", "-0.3", "-0.0", "0.0", "0.1", "0.3", "2.0", "7.5"};
        for (int i = 0; i < numbers.length; i++) {
            for (int j = 0; j < numbers.length; j++) {
                double x = numbers[i];
                double y = numbers[j];
                on.givesReal("give " + texts[i] + "+" + texts[j] + ";", x + y);
                on.givesReal("give " + texts[i] + "-" + texts[j] + ";", x - y);
                on.givesReal("give " + texts[i] + "*" + texts[j] + ";", x * y);
                on.givesReal("give " + texts[i] + "/" + texts[j] + ";", told(x / y));
                on.givesReal("give " + texts[i] + "%" + texts[j] + ";", told(x % y));
                on.gives("give " + texts[i] + "<" + texts[j] + ";", x < y ? 1 : 0);
                on.gives("give " + texts[i] + "~" + texts[j] + ";", x == y ? 1 : 0);
            }
        }
    }

    private static double told(double x) {
        return x != x ? 0.0 : x;
    }

    private void tooSmallAndTooLarge() {
        due.sentence("REALS do as the language does (too large, too small)");
        double large = 999999999.0;
        double small = 1.0 / 999999999.0;
        String text = "let l=999999999.0;let s=1.0/999999999.0;";
        for (int times = 1; times <= 7; times++) {
            large = large * large;
            small = small * small;
            text += "l=l*l;s=s*s;";
            on.givesReal(text + "give l;", large);
            on.givesReal(text + "give s;", small);
            on.givesReal(text + "give -l;", -large);
            on.givesReal(text + "give -s;", -small);
            on.givesReal(text + "give l%0.7;", told(large % 0.7));
            on.givesReal(text + "give 0.7%s;", told(0.7 % small));
            on.givesReal(text + "give 0.7%l;", told(0.7 % large));
        }
        due.isReal("what is too large", large, Double.POSITIVE_INFINITY);
        due.isReal("what is too small", small, 0.0);
    }

    private void endless() {
        due.sentence("REALS do as the language does (what has no end)");
        double h = Double.POSITIVE_INFINITY;
        double[] numbers = {h, -h, 2.5, -2.5, 0.0, -0.0};
        String[] texts = {"h", "-h", "2.5", "-2.5", "0.0", "-0.0"};
        for (int i = 0; i < numbers.length; i++) {
            for (int j = 0; j < numbers.length; j++) {
                double x = numbers[i];
                double y = numbers[j];
                String head = HUGE + "let x=" + texts[i] + ";let y=" + texts[j] + ";";
                on.givesReal(head + "give x+y;", told(x + y));
                on.givesReal(head + "give x-y;", told(x - y));
                on.givesReal(head + "give x*y;", told(x * y));
                on.givesReal(head + "give x/y;", told(x / y));
                on.givesReal(head + "give x%y;", told(x % y));
                on.gives(head + "give (x<y)*10+(x~y);", (x < y ? 10 : 0) + (x == y ? 1 : 0));
                on.gives(head + "let z=x+y;give z~z;", x + y == x + y ? 1 : 0);
                on.gives(head + "let z=x-y;give z~z;", x - y == x - y ? 1 : 0);
                on.gives(head + "let z=x*y;give z~z;", x * y == x * y ? 1 : 0);
                on.gives(head + "let z=x/y;give z~z;", x / y == x / y ? 1 : 0);
                on.gives(head + "let z=x%y;give z~z;", x % y == x % y ? 1 : 0);
            }
        }
    }

    private void greatestReal() {
        due.sentence("REALS do as the language does (the greatest that has an end, and the least)");
        String max = "let p=2.0;repeat 9{p=p*p;}let e=1.0;repeat 52{e=e/2.0;}let m=(2.0-e)*p*(p/2.0);";
        String min = "let p=2.0;repeat 9{p=p*p;}let t=1.0/p/p;repeat 50{t=t/2.0;}";
        double m = Double.MAX_VALUE;
        double t = Double.MIN_VALUE;
        on.givesReal(max + "give m;", m);
        on.givesReal(max + "give -m;", -m);
        String[] exps = {"m-m", "m+-m", "m/m", "-m/m", "m*0.0", "m%2.5", "-m%2.5", "m%m", "m+m", "m*2.0", "m/0.5", "m%(m/2.0)", "m-1.0"};
        double[] reals = {0.0, 0.0, 1.0, -1.0, 0.0, m % 2.5, -m % 2.5, 0.0, m + m, m * 2.0, m / 0.5, 0.0, m};
        for (int i = 0; i < exps.length; i++) {
            on.givesReal(max + "give " + exps[i] + ";", reals[i]);
            on.gives(max + "let z=" + exps[i] + ";give z~z;", 1);
            on.gives(max + "m=-m;let z=" + exps[i] + ";give z~z;", 1);
        }
        on.givesReal(min + "give t;", t);
        on.givesReal(min + "give t/2.0;", 0.0);
        on.givesReal(min + "give 2.5%t;", 2.5 % t);
        on.givesReal(min + "give t*1.5%t;", 0.0);
        on.givesReal(min + "give t%2.5;", t);
    }

    private void remainders() {
        due.sentence("REALS do as the language does: % (the same, twice, four times as much, and next to it)");
        String[] texts = {"0.5", "1.0", "2.0", "3.0", "4.0", "6.0", "8.0", "16.0", "1023.0", "1024.0", "1024.5", "1025.0"};
        for (String left : texts) {
            for (String right : texts) {
                double x = Double.parseDouble(left);
                double y = Double.parseDouble(right);
                on.givesReal("give " + left + "%" + right + ";", x % y);
                on.givesReal("give -" + left + "%" + right + ";", -x % y);
                on.givesReal("give " + left + "%-" + right + ";", x % -y);
            }
        }
    }

    private void realOfWhole() {
        due.sentence("real of a WHOLE is that number");
        for (int number : EDGES) {
            on.script("give real(A);");
            on.x.cell(0, 0, number);
            due.is("run()", on.x.run(0, 9), 3);
            due.isReal("gaveReal()", on.x.gaveReal(), (double) number);
            due.is("gave()", on.x.gave(), 0);
        }
        on.givesReal("give real(B);", 2.5);
    }

    private void wholeOfWhole() {
        due.sentence("whole of a WHOLE itself");
        for (int number : EDGES) {
            on.script("D=A;give whole(A)+whole(whole(D))-A;");
            on.x.cell(0, 0, number);
            on.givesNow("whole(" + number + ")", number);
        }
    }

    private void realInAny() {
        due.sentence("whole and real of an ANY want just that KIND in it");
        on.givesReal("D=0.0/0.0;give real(D);", 0.0);
        on.gives("D=0.0/0.0;let r=real(D);give r~r;", 0);
        on.givesReal("D=-0.0;give real(D);", -0.0);
        on.gives("D=A;give whole(D);", 4);
        on.fails("D=0.0/0.0;A=whole(D);", Stage.CAST, 12);
    }

    private void anyTakesAll() {
        due.sentence("An ANY takes what comes as it is");
        String[] texts = {"D=A;", "D=B;", "D=C;", "D=H;"};
        int[] kinds = {0, 1, 2, NONE};
        for (int first = 0; first < 4; first++) {
            for (int second = 0; second < 4; second++) {
                on.ends(texts[first] + texts[second]);
                due.is("holds() behind " + texts[first] + texts[second], on.x.holds(0, 3), kinds[second]);
                due.is("count(1)", on.x.count(1), second == 3 ? 3 : 4);
                due.is("same()", on.x.same(0, 2, 0, 3), second == 2 ? 1 : 0);
                due.isReal("real()", on.x.real(0, 3), second == 1 ? 2.5 : 0.0);
            }
        }
        on.gives("let a=D;a=1;a=2.5;a=C;D=a;let r=asrow(a);r[0]=8;give C[0];", 8);
        due.is("same()", on.x.same(0, 2, 0, 3), 1);
    }

    private void heldNotCopied() {
        due.sentence("ROWS are held, not copied");
        on.gives("let r=C;r[0]=5;give C[0];", 5);
        on.gives("let r=C;let q=r;q[0]=6;give r[0]*10+C[0];", 66);
        on.gives("let r=row(2);C=r;r[1]=6;give C[1];", 6);
        on.gives("D=C;let r=asrow(D);r[2]=4;give C[2];", 4);
        on.gives("let r=asrow(C);r[2]=3;give C[2];", 3);
        on.gives("let r=C;C=row(1);r[1]=2;give r[1]*100+size(C)*10+C[0];", 210);
        on.gives("let r=C;r=row(1);r[0]=9;give C[0];", 0);
    }

    private void seenByAll() {
        due.sentence("what is changed in one is seen by all that hold it");
        on.ends("D=C;");
        due.is("same()", on.x.same(0, 2, 0, 3), 1);
        on.x.cellPut(0, 2, 0, 11);
        due.is("at() of the other", on.x.at(0, 3, 0), 11);
        on.x.cellPut(0, 3, 2, 12);
        due.is("at() of the one", on.x.at(0, 2, 2), 12);
        Texts.read(on.x, "C[1]=13;let r=asrow(D);give r[1];");
        on.givesNow("in the next RUN", 13);
        on.x.cellRow(0, 2, 3);
        on.x.cellPut(0, 2, 0, 14);
        due.is("at() of what holds another by now", on.x.at(0, 3, 0), 11);
    }

    private void seenAtOnce() {
        due.sentence("What comes to a COLUMN is seen at once");
        on.gives("A=5;A=A+1;A=A*A;give A;", 36);
        on.gives("C=row(2);C[1]=A;A=C[1]+size(C);give A;", 6);
        on.gives("D=A;D=whole(D)+1;give whole(D);", 5);
        on.gives("repeat 3{A=A+A;}give A;", 32);
    }

    private void rowsOfObjects() {
        due.sentence("RUN over an OBJECT (and no other)");
        on.script("C[0]=C[0]+1;A=size(C);D=C;");
        on.x.cellRow(19, 2, 20);
        due.is("run() over another OBJECT", on.x.run(19, 99), 0);
        due.is("at() of it", on.x.at(19, 2, 0), 1);
        due.is("whole() of it", on.x.whole(19, 0), 20);
        due.is("at() of the first", on.x.at(0, 2, 0), 0);
        due.is("whole() of the first", on.x.whole(0, 0), 4);
        due.is("same() of two OBJECTS", on.x.same(0, 2, 19, 2), 0);
        due.is("run() over one that has nothing", on.x.run(18, 99), -4);
        due.is("holds() of it", on.x.holds(18, 3), NONE);
    }
}
