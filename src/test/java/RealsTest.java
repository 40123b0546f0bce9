/** Promises 11 whole, 12 real, 17 run and 19 gaveReal: REALS do as Java does; those that are no numbers are told as 0.0. */
public final class RealsTest {
    private static final String HUGE = "let h=999999999.0;repeat 6{h=h*h;}";
    private static final String TINY = "let t=0.000001;repeat 5{t=t*t;}";
    private final Due due = new Due("RealsTest");

    private RealsTest() {
    }

    public static void main(String[] args) {
        RealsTest test = new RealsTest();
        test.digits();
        test.signs();
        test.noNumbers();
        test.cuts();
        test.remainders();
        test.manyRemainders();
        test.due.close();
    }

    private ScriptLanguage ran(String text, int outcome) {
        ScriptLanguage x = new ScriptLanguage();
        x.column('A', 0, true);
        x.column('B', 1, true);
        x.column('D', 3, true);
        due.is("read of " + text, Texts.read(x, text) < 0 ? x.fault(1) : 0, 0);
        due.is("run of " + text, x.run(0, 400), outcome);
        return x;
    }

    private void gives(String text, double real) {
        due.isReal("gaveReal of " + text, ran(text, 3).gaveReal(), real);
    }

    private void givesWhole(String text, int whole) {
        due.is("gave of " + text, ran(text, 2).gave(), whole);
    }

    private void digits() {
        gives("give 0.0;", 0.0);
        gives("give 2.5;", 2.5);
        gives("give 000.1;", 1 / 10.0);
        gives("give 0.3;", 3 / 10.0);
        gives("give 1.23;", 123 / 10.0 / 10.0);
        gives("give 0.123457;", 123457 / 10.0 / 10.0 / 10.0 / 10.0 / 10.0 / 10.0);
        gives("give 123456789.123457;", 123456789123457L / 10.0 / 10.0 / 10.0 / 10.0 / 10.0 / 10.0);
        gives("give 999999999.999999;", 999999999999999L / 10.0 / 10.0 / 10.0 / 10.0 / 10.0 / 10.0);
        gives("give 5.700000;", 5700000 / 10.0 / 10.0 / 10.0 / 10.0 / 10.0 / 10.0);
    }

    private static double behindPoint(long digits, int places) {
        double number = digits;
        for (int i = 0; i < places; i++) {
            number = number / 10.0;
        }
        return number;
    }

    private void signs() {
        gives("give 0.1+0.2;", 0.1 + 0.2);
        gives("give 0.1-0.3;", 0.1 - 0.3);
        gives("give 1.1*1.1;", 1.1 * 1.1);
        gives("give 1.0/3.0;", 1.0 / 3.0);
        gives("give -0.0;", -0.0);
        gives("give 0.0-0.0;", 0.0);
        gives("give -2.5;", -2.5);
        gives("give 1.0/0.0;", Double.POSITIVE_INFINITY);
        gives("give 1.0/-0.0;", Double.NEGATIVE_INFINITY);
        gives("give real(7);", 7.0);
        gives("give real(-7)/2.0;", -3.5);
        gives("give real(2.5);", 2.5);
        givesWhole("give 0.0~-0.0;", 1);
        givesWhole("give -0.0<0.0;", 0);
        givesWhole("give 1.5<1.5;", 0);
        givesWhole("give 1.0/0.0~2.0/0.0;", 1);
        gives(HUGE + "give h;", Double.POSITIVE_INFINITY);
        gives(HUGE + "give h+1.0;", Double.POSITIVE_INFINITY);
        gives(HUGE + "give 1.0/h;", 0.0);
        gives(HUGE + "give -1.0/h;", -0.0);
    }

    private void noNumbers() {
        String[] none = {"0.0/0.0", "0.0%0.0", "1.5%0.0", "h-h", "h+-h", "-h+h", "h/h", "h*0.0", "0.0*h", "h%2.0", "-h/h",
            "0.0/0.0+1.0", "1.0-0.0/0.0", "-(0.0/0.0)", "0.0/0.0*h", "real(0.0/0.0)"};
        for (String exp : none) {
            ScriptLanguage x = ran(HUGE + "B=" + exp + ";D=" + exp + ";give " + exp + ";", 3);
            due.isReal("gaveReal of " + exp, x.gaveReal(), 0.0);
            due.is("gave of " + exp, x.gave(), 0);
            due.is("holds of " + exp, x.holds(0, 1), 1);
            due.isReal("real of " + exp, x.real(0, 1), 0.0);
            due.is("whole of " + exp, x.whole(0, 1), 0);
            due.is("holds of an any of " + exp, x.holds(0, 2), 1);
            due.isReal("real of an any of " + exp, x.real(0, 2), 0.0);
            givesWhole(HUGE + "let n=" + exp + ";give n~n;", 0);
            givesWhole(HUGE + "let n=" + exp + ";give (n<1.0)+(1.0<n)+(n~0.0);", 0);
            givesWhole(HUGE + "give whole(" + exp + ");", 0);
            givesWhole(HUGE + "D=" + exp + ";let n=real(D);give n~n;", 0);
        }
        gives(HUGE + "give h-1.0;", Double.POSITIVE_INFINITY);
        gives(HUGE + "give -h-h;", Double.NEGATIVE_INFINITY);
        gives(HUGE + "give h*-h;", Double.NEGATIVE_INFINITY);
        gives(HUGE + "give h/0.0;", Double.POSITIVE_INFINITY);
        gives("B=0.0/0.0;B=1.5;give B;", 1.5);
    }

    private void cuts() {
        givesWhole("give whole(2.999999);", 2);
        givesWhole("give whole(-2.999999);", -2);
        givesWhole("give whole(-0.5);", 0);
        givesWhole("give whole(999999999.0*3.0);", Integer.MAX_VALUE);
        givesWhole("give whole(-999999999.0*3.0);", Integer.MIN_VALUE);
        givesWhole(HUGE + "give whole(h);", Integer.MAX_VALUE);
        givesWhole(HUGE + "give whole(-h);", Integer.MIN_VALUE);
        ScriptLanguage x = ran("B=-999999999.0*3.0;", 0);
        due.is("whole()", x.whole(0, 1), Integer.MIN_VALUE);
        x = ran(HUGE + "B=h;D=-h;", 0);
        due.is("whole() of what has no end", x.whole(0, 1), Integer.MAX_VALUE);
        due.isReal("real() of what has no end", x.real(0, 1), Double.POSITIVE_INFINITY);
        due.isReal("real() of what has no end", x.real(0, 2), Double.NEGATIVE_INFINITY);
    }

    private void remainders() {
        gives("give 7.5%2.0;", 1.5);
        gives("give -7.5%2.0;", -1.5);
        gives("give 7.5%-2.0;", 1.5);
        gives("give -7.5%-2.0;", -1.5);
        gives("give 6.0%2.0;", 0.0);
        gives("give -6.0%2.0;", -0.0);
        gives("give -0.0%2.0;", -0.0);
        gives("give 1.5%2.0;", 1.5);
        gives("give 0.3%0.1;", 0.3 % 0.1);
        gives("give 999999999.999999%0.000007;", behindPoint(999999999999999L, 6) % behindPoint(7, 6));
        gives(HUGE + "give 1.5%h;", 1.5);
        gives(HUGE + "give -1.5%-h;", -1.5);
        double huge = 999999999.0;
        for (int i = 0; i < 4; i++) {
            huge = huge * huge;
        }
        double tiny = behindPoint(1, 6);
        for (int i = 0; i < 5; i++) {
            tiny = tiny * tiny;
        }
        String both = "let h=999999999.0;repeat 4{h=h*h;}" + TINY;
        gives(both + "give h%0.7;", huge % 0.7);
        gives(both + "give h%t;", huge % tiny);
        gives(both + "give h%(t*0.00001);", huge % (tiny * behindPoint(1, 5)));
        gives(both + "give h*999999999.0%3.3;", huge * 999999999.0 % 3.3);
    }

    /** Numbers of all sizes, made by multiplying; what is due is Java's own %. */
    private void manyRemainders() {
        java.util.Random random = new java.util.Random(7);
        for (int n = 0; n < 400; n++) {
            int a = random.nextInt(1000000000);
            int b = 1 + random.nextInt(1000000000);
            int f = 1 + random.nextInt(9);
            int g = 1 + random.nextInt(9);
            int k = random.nextInt(34);
            int l = random.nextInt(34);
            String up = random.nextBoolean() ? "*" : "/";
            String down = random.nextBoolean() ? "*" : "/";
            double x = grown(a, up, 100000000.0 * f, k);
            double y = grown(b, down, 100000000.0 * g, l);
            double due = x % y;
            gives("let x=" + a + ".0;repeat " + k + "{x=x" + up + f + "00000000.0;}let y=" + b + ".0;repeat " + l + "{y=y" + down + g
                + "00000000.0;}give x%y;", due != due ? 0.0 : due);
        }
    }

    private static double grown(double from, String sign, double by, int times) {
        double x = from;
        for (int i = 0; i < times; i++) {
            x = sign.equals("*") ? x * by : x / by;
        }
        return x;
    }
}
