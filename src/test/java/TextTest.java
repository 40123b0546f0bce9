/** Promises 15 read and 16 fault: tokens, the grammar and FAULT 1. */
public final class TextTest {
    private static final int NONE = ScriptLanguage.NONE;
    private final Due due = new Due("TextTest");
    private ScriptLanguage x;

    private TextTest() {
    }

    public static void main(String[] args) {
        TextTest test = new TextTest();
        test.stats();
        test.tokens();
        test.broken();
        test.nesting();
        test.signs();
        test.faultCall();
        test.due.close();
    }

    private void fresh() {
        x = new ScriptLanguage();
        x.column('A', 0, true);
        x.column('B', 1, true);
        x.column('C', 2, true);
        x.column('D', 3, true);
    }

    private void reads(String text, int stats) {
        fresh();
        due.is("read of " + text, Texts.read(x, text), stats);
        due.is("fault(0) of " + text, x.fault(0), 0);
        due.is("fault(1) of " + text, x.fault(1), NONE);
        due.is("count(4) of " + text, x.count(4), 1);
    }

    private void breaks(String text, int place) {
        fresh();
        due.is("read of " + text, Texts.read(x, text), -11);
        due.is("fault(0) of " + text, x.fault(0), 1);
        due.is("fault(1) of " + text, x.fault(1), place);
        due.is("count(4) of " + text, x.count(4), 0);
    }

    private void gives(String exp, int whole) {
        fresh();
        due.is("read of " + exp, Texts.read(x, "give " + exp + ";"), 1);
        due.is("run of " + exp, x.run(0, 400), 2);
        due.is("gave of " + exp, x.gave(), whole);
    }

    private void stats() {
        reads("", 0);
        reads(" \n \n", 0);
        reads("stop;", 1);
        reads("let a=1;a=2;A=a;C[0]=1;", 4);
        reads("if 1{}", 1);
        reads("if 1{}else{}", 1);
        reads("if 1{stop;}else{stop;stop;}", 4);
        reads("repeat 2{if A{give 1;}stop;}", 4);
        reads("repeat 2{}\nif 0 { }else { }\n", 2);
        reads("let r=row(2);r[1]=2;give r[0];", 3);
        reads("ifA{}repeatA{}", 2);
    }

    private void tokens() {
        gives("007", 7);
        gives("999999999", 999999999);
        gives("1 +\n2", 3);
        gives("1-1", 0);
        gives("2+3*4", 14);
        gives("(2+3)*4", 20);
        gives("20-5-3", 12);
        gives("100/10/5", 2);
        gives("100/7%4", 2);
        gives("- -5", 5);
        gives("--5", 5);
        gives("-2*3", -6);
        gives("2--3", 5);
        gives("1+1<2+1", 1);
        gives("1~2-1", 1);
        gives("(1<2)~(3<4)", 1);
        gives("size(row(3))", 3);
        gives("whole(1.9)", 1);
        breaks("give 1234567890;", 14);
        breaks("give 1234567890.5;", 14);
        breaks("give 1.1234567;", 13);
        breaks("give 1.;", 6);
        breaks("give 1.", 6);
        breaks("give .5;", 5);
        breaks("give 1 .5;", 7);
        breaks("give 1.5.5;", 8);
        breaks("give 1a;", 6);
        reads("let abcdefgh=1;give abcdefgh;", 2);
        breaks("let abcdefghi=1;", 12);
        breaks("let abcdefgh1=1;", 12);
        reads("let a234567z=1;", 1);
        reads("let lets=1;let els=lets;", 2);
        breaks("let let=1;", 4);
        String[] words = {"let", "if", "else", "repeat", "stop", "give", "size", "row", "whole", "real", "asrow"};
        for (String word : words) {
            breaks("let " + word + "=1;", 4);
        }
        breaks("let A=1;", 4);
        breaks("letA=1;", 3);
        breaks("give5;", 5);
        breaks("AB=1;", 1);
        breaks("A1=1;", 1);
        breaks("\tstop;", 0);
        breaks("stop;\r", 5);
        breaks("stop;\0", 5);
        breaks("stop;\u00e9", 5);
        breaks("A=1>2;", 3);
        breaks("A=1;_", 4);
    }

    private void broken() {
        breaks("stop", 4);
        breaks("stop  ", 6);
        breaks(";", 0);
        breaks("}", 0);
        breaks("stop;}", 5);
        breaks("else{}", 0);
        breaks("if 1{}else{}else{}", 12);
        breaks("if 1 stop;", 5);
        breaks("if {}", 3);
        breaks("if 1{", 5);
        breaks("if 1{stop;", 10);
        breaks("if 1{}else", 10);
        breaks("if 1{}else stop;", 11);
        breaks("repeat{}", 6);
        breaks("repeat 1;", 8);
        breaks("A", 1);
        breaks("A=", 2);
        breaks("A=;", 2);
        breaks("A=1", 3);
        breaks("A+1;", 1);
        breaks("A=1+;", 4);
        breaks("A=+1;", 2);
        breaks("A=1<2<3;", 5);
        breaks("A=1~2<3;", 5);
        breaks("A=(1;", 4);
        breaks("A=();", 3);
        breaks("A=1);", 3);
        breaks("A=C[];", 4);
        breaks("A=C[0;", 5);
        breaks("A=C[0][0];", 6);
        breaks("C[0][0]=1;", 4);
        breaks("A=1[0];", 3);
        breaks("A=(C)[0];", 5);
        breaks("A=row(1)[0];", 8);
        breaks("A=size C;", 7);
        breaks("A=size;", 6);
        breaks("A=if;", 2);
        breaks("1=A;", 0);
        breaks("give;", 4);
        breaks("stop 1;", 5);
        breaks("let a 1;", 6);
        breaks("let a;", 5);
        breaks("let", 3);
        breaks("let 1=1;", 4);
        breaks("size(C)=1;", 0);
        breaks("(A)=1;", 0);
        // FAULT 1 is ahead of the others, wherever it stands, and the first one counts.
        breaks("x=1;A=1.5;stop", 14);
        breaks("A==?;", 2);
    }

    private void nesting() {
        String open20 = Texts.times("(", 20);
        String close20 = Texts.times(")", 20);
        reads("give " + open20 + "1" + close20 + ";", 1);
        breaks("give " + open20 + "(1)" + close20 + ";", 25);
        reads("give " + Texts.times("-", 20) + "1;", 1);
        breaks("give " + Texts.times("-", 21) + "1;", 25);
        reads("give -1" + Texts.times("--1", 21) + ";", 1);
        reads(Texts.times("if 1{", 20) + Texts.times("}", 20), 20);
        breaks(Texts.times("if 1{", 21) + Texts.times("}", 21), 104);
        reads(Texts.times("if 1{", 20) + "A=1;" + Texts.times("}", 20), 21);
        breaks(Texts.times("if 1{", 20) + "A=-1;" + Texts.times("}", 20), 102);
        breaks(Texts.times("if 1{", 20) + "if(1){}" + Texts.times("}", 20), 102);
        breaks(Texts.times("if 1{", 20) + "C[0]=1;" + Texts.times("}", 20), 101);
        breaks(Texts.times("if 1{", 20) + "A=size(C);" + Texts.times("}", 20), 106);
        reads("A=" + Texts.times("C[", 20) + "0" + Texts.times("]", 20) + ";", 1);
        breaks("A=" + Texts.times("C[", 21) + "0" + Texts.times("]", 21) + ";", 43);
        reads("A=" + Texts.times("whole(", 20) + "0" + Texts.times(")", 20) + ";", 1);
        breaks("A=" + Texts.times("whole(", 21) + "0" + Texts.times(")", 21) + ";", 127);
        reads("repeat 1{if 1{}else{A=" + Texts.times("-(", 9) + "1" + Texts.times(")", 9) + ";}}", 3);
        breaks("repeat 1{if 1{}else{A=" + Texts.times("-(", 9) + "-1" + Texts.times(")", 9) + ";}}", 40);
        // Side by side is not in each other.
        reads(Texts.times("if(1){A=(1);}else{}", 30), 60);
        reads("A=(" + open20.substring(2) + "1" + close20.substring(1) + "+(" + open20.substring(2) + "1" + close20.substring(1) + ";", 1);
        // The - is over its one only.
        reads("A=" + Texts.times("-", 20) + "1+" + Texts.times("-", 20) + "1;", 1);
        breaks("A=" + Texts.times("-", 20) + "C[0];", 23);
    }

    private void signs() {
        reads("A=1" + Texts.times("+1", 30) + ";", 1);
        breaks("A=1" + Texts.times("+1", 31) + ";", 63);
        reads("A=1" + Texts.times("+1", 29) + "<1;", 1);
        breaks("A=1" + Texts.times("*1", 30) + "<1;", 63);
        reads("A=1" + Texts.times("+1", 30) + ";A=1" + Texts.times("+1", 30) + ";", 2);
        reads("if 1" + Texts.times("+1", 30) + "{A=1" + Texts.times("+1", 30) + ";}else{A=1" + Texts.times("+1", 30) + ";}", 3);
        breaks("if 1" + Texts.times("+1", 31) + "{}", 64);
        // In [ ] and ( ) they are the stat's own.
        reads("C[1" + Texts.times("+1", 15) + "]=1" + Texts.times("+1", 15) + ";", 1);
        breaks("C[1" + Texts.times("+1", 15) + "]=1" + Texts.times("+1", 16) + ";", 66);
        breaks("A=(1" + Texts.times("+1", 20) + ")" + Texts.times("*1", 11) + ";", 65);
        // - of one is none between two.
        reads("A=-1" + Texts.times("+-1", 30) + ";", 1);
    }

    private void faultCall() {
        fresh();
        due.is("fault(-1)", x.fault(-1), ScriptLanguage.OUTSIDE);
        due.is("fault(2)", x.fault(2), ScriptLanguage.OUTSIDE);
        Texts.read(x, "A=1.5;");
        due.is("fault(0)", x.fault(0), 4);
        due.is("fault(1)", x.fault(1), 1);
        Texts.read(x, "A=1;");
        due.is("fault(0) of the latest read()", x.fault(0), 0);
        due.is("fault(1) of the latest read()", x.fault(1), NONE);
    }
}
