/** The edges of "1 TEXT" up to FAULT 1: tokens, the grammar, what is in each other, signs. A method for each sentence. */
public final class TextBoundsTest {
    private static final String[] WORDS = {"let", "if", "else", "repeat", "stop", "give", "size", "row", "whole", "real", "asrow"};
    private static final String SIGNS = ";={}()[]+-*/%<~";
    private final Due due = new Due("TextBoundsTest");
    private final Stage on = new Stage(due);

    private TextBoundsTest() {
    }

    public static void main(String[] args) {
        TextBoundsTest test = new TextBoundsTest();
        test.names();
        test.nameBytes();
        test.words();
        test.columns();
        test.wholes();
        test.realsBefore();
        test.realsBehind();
        test.realNumbers();
        test.points();
        test.longest();
        test.signBytes();
        test.blanks();
        test.emptyBlocks();
        test.elses();
        test.oneComparison();
        test.oneBracket();
        test.noExp();
        test.tapesLength();
        test.everyEnd();
        test.inEachOther();
        test.bracesInEachOther();
        test.mixedInEachOther();
        test.besideEachOther();
        test.thirtySigns();
        test.signsOfAStat();
        test.signsInBraces();
        test.noSignsBetweenTwo();
        test.bothAtOnce();
        test.textFaultFirst();
        test.statsInAll();
        test.due.close();
    }

    private static String times(String text, int n) {
        return Texts.times(text, n);
    }

    private void breaks(String text, int place) {
        on.faults(text, 1, place);
    }

    private void names() {
        due.sentence("NAMES of LOCALS (8 at most)");
        for (int n = 1; n <= 8; n++) {
            String name = "abcdefgh".substring(0, n);
            on.gives("let " + name + "=" + n + ";give " + name + ";", n);
        }
        breaks("let abcdefghi=1;", 12);
        breaks("let abcdefgh0=1;", 12);
        breaks("let abcdefghabcdefgh=1;", 12);
        breaks("abcdefghi=1;", 8);
        breaks("A=abcdefghi;", 10);
        breaks("let abcdefgh i=1;", 13);
        // All eight count: names that differ in their last byte alone are two.
        on.gives("let abcdefgh=1;let abcdefgi=2;give abcdefgh*10+abcdefgi;", 12);
        on.gives("let a=1;let aa=2;let aaaaaaa=3;let aaaaaaaa=4;give a*1000+aa*100+aaaaaaa*10+aaaaaaaa;", 1234);
    }

    private void nameBytes() {
        due.sentence("NAMES of LOCALS (a to z, then these and digits)");
        on.reads("let a=1;let z=1;let a0=1;let z9=1;let a0b9=1;let zz=1;", 6);
        breaks("let 0a=1;", 4);
        breaks("let aA=1;", 5);
        breaks("let a_=1;", 5);
        breaks("let `=1;", 4);
        breaks("let {=1;", 4);
        breaks("let a/=1;", 5);
        breaks("let a:=1;", 5);
    }

    private void words() {
        due.sentence("but these WORDS: let if else repeat stop give size row whole real asrow");
        for (String word : WORDS) {
            breaks("let " + word + "=1;", 4);
            String longer = word + "s";
            String shorter = word.substring(0, word.length() - 1);
            String numbered = word + "0";
            on.gives("let " + longer + "=1;give " + longer + ";", 1);
            on.gives("let " + shorter + "=1;give " + shorter + ";", 1);
            on.gives("let " + numbered + "=1;give " + numbered + ";", 1);
        }
        breaks("lets a=1;", 5);
        breaks("stop0;", 5);
        breaks("give1;", 5);
        breaks("A=whole1(1);", 8);
        // A word is none in a longer name, and eight bytes cut none out of it.
        on.gives("let repeatif=3;give repeatif;", 3);
        breaks("repeatifA{}", 8);
    }

    private void columns() {
        due.sentence("COLUMNS (one byte A to Z)");
        breaks("AA=1;", 1);
        breaks("Aa=1;", 1);
        breaks("A0=1;", 1);
        breaks("@=1;", 0);
        breaks("[=1;", 0);
        on.reads("ifA{A=A;}", 2);
    }

    private void wholes() {
        due.sentence("WHOLES (1 to 9 digits)");
        String digits = "";
        int number = 0;
        for (int n = 1; n <= 9; n++) {
            digits += n;
            number = number * 10 + n;
            on.gives("give " + digits + ";", number);
            on.gives("give " + times("9", n) + ";", Integer.parseInt(times("9", n)));
            on.gives("give " + times("0", n) + ";", 0);
            on.gives("give " + times("0", n - 1) + "7;", 7);
        }
        breaks("give 1234567890;", 14);
        breaks("give 0000000000;", 14);
        breaks("give 0000000001;", 14);
        breaks("give 999999999999999999;", 14);
        breaks("give 123456789 0;", 15);
    }

    private void realsBefore() {
        due.sentence("REALS (1 to 9 digits, a point)");
        for (int n = 1; n <= 9; n++) {
            on.givesReal("give " + times("1", n) + ".5;", Long.parseLong(times("1", n) + "5") / 10.0);
            on.givesReal("give " + times("0", n) + ".0;", 0.0);
        }
        breaks("give .5;", 5);
        breaks("give 1234567890.5;", 14);
        breaks("give 0000000000.5;", 14);
    }

    private void realsBehind() {
        due.sentence("REALS (a point, 1 to 6 digits)");
        for (int n = 1; n <= 6; n++) {
            String digits = "234567".substring(0, n);
            long whole = Long.parseLong("1" + digits);
            on.givesReal("give 1." + digits + ";", divided(whole, n));
            on.givesReal("give 0." + times("0", n) + ";", 0.0);
        }
        breaks("give 1.1234567;", 13);
        breaks("give 1.0000000;", 13);
        breaks("give 0.000000000000;", 13);
    }

    private static double divided(long digits, int times) {
        double number = (double) digits;
        for (int i = 0; i < times; i++) {
            number = number / 10.0;
        }
        return number;
    }

    private void realNumbers() {
        due.sentence("that number of the digits as one, divided by 10.0 as often as there are digits behind the point");
        on.givesReal("give 999999999.999999;", divided(999999999999999L, 6));
        on.givesReal("give 123456789.654321;", divided(123456789654321L, 6));
        on.givesReal("give 000000000.000001;", divided(1, 6));
        on.givesReal("give 0.000003;", divided(3, 6));
        on.givesReal("give 4.350000;", divided(4350000, 6));
        on.givesReal("give 4.35;", divided(435, 2));
        // Here to divide by 10.0 one by one is not to divide once by a power of ten.
        for (int digits = 1; digits < 400; digits++) {
            String six = String.valueOf(1000000 + digits * 2477 % 1000000).substring(1);
            on.givesReal("give 0." + six + ";", divided(Long.parseLong(six), 6));
        }
    }

    private void points() {
        due.sentence("REALS (a point, at least one digit behind it)");
        breaks("give 1.;", 6);
        breaks("give 1.", 6);
        breaks("give 1. 5;", 6);
        breaks("give 1.a;", 6);
        breaks("give 1 .5;", 7);
        breaks("give 1..5;", 6);
        breaks("give 1.5.;", 8);
        breaks("give 1.5.5;", 8);
    }

    private void longest() {
        due.sentence("TOKENS, the longest that there are");
        breaks("give a1 2;", 8);
        breaks("give 12 3;", 8);
        breaks("give 1.2 3;", 9);
        breaks("give 1.2a;", 8);
        breaks("give 1a;", 6);
        on.gives("give 12+3;", 15);
        on.reads("ifA{}repeatA{}giveA;", 3);
        on.reads("let a=A;if a{}", 2);
        breaks("let a=A;ifa{}", 11);
        on.gives("give 1<-1;", 0);
        on.gives("give 1--1;", 2);
        on.gives("give 1~-1;", 0);
    }

    private void signBytes() {
        due.sentence("; = { } ( ) [ ] + - * / % < ~ (and no other byte)");
        for (int b = 0; b < 256; b++) {
            boolean letter = b >= 'a' && b <= 'z' || b >= 'A' && b <= 'Z' || b >= '0' && b <= '9';
            boolean blank = b == 32 || b == 10;
            // The byte stands where a sign between two may stand, and 1 and a ; behind it.
            String text = "D=1" + (char) b + "1;";
            if ("+-*/%<~.0123456789".indexOf(b) >= 0) {
                on.reads(text, 1);
            } else if (b == ';') {
                breaks(text, 4);
            } else {
                breaks(text, blank ? 4 : 3);
            }
            if (!letter && !blank && SIGNS.indexOf(b) < 0) {
                breaks((char) b + "stop;", 0);
                breaks("stop;" + (char) b, 5);
                breaks("stop" + (char) b + ";", 4);
            }
        }
    }

    private void blanks() {
        due.sentence("Blanks (32, 10) between");
        on.gives(" \n give \n 1 \n + \n 2 \n ; \n ", 3);
        on.gives("\n\n\ngive\n1+2;", 3);
        on.reads("if 1{\n}\nelse\n{\n}", 1);
        on.reads("C [ 0 ] = - 1 ;", 1);
        on.reads("A=size ( C ) ;", 1);
        breaks("st op;", 3);
        breaks("give 1 .5;", 7);
        breaks("give 1. 5;", 6);
        int[] none = {9, 11, 12, 13, 0, 31, 33, 127, 128, 160, 255};
        for (int b : none) {
            breaks("stop;" + (char) b + "stop;", 5);
        }
    }

    private void emptyBlocks() {
        due.sentence("'{' stat * '}' (none in it)");
        on.reads("if 1{}", 1);
        on.reads("if 1{}else{}", 1);
        on.reads("repeat 3{}", 1);
        on.reads("if 0{if 0{}else{}}else{repeat 0{}}", 3);
        breaks("{}", 0);
        breaks("if 1{{}}", 5);
        breaks("if 1{;}", 5);
        breaks("if 1{}}", 6);
        breaks("if 1{", 5);
        breaks("}", 0);
    }

    private void elses() {
        due.sentence("[ 'else' '{' stat * '}' ] (once at most, behind if alone)");
        on.reads("if 1{}else{}if 1{}else{}", 2);
        breaks("if 1{}else{}else{}", 12);
        breaks("repeat 1{}else{}", 10);
        breaks("else{}", 0);
        breaks("if 1{else{}}", 5);
        breaks("if 1{}else if 1{}", 11);
        breaks("if 1{}else;", 10);
    }

    private void oneComparison() {
        due.sentence("exp = sum [ ('<' | '~') sum ] (once at most)");
        String[] heads = {"let a=", "A=", "give ", "if ", "repeat ", "C[", "C[0]=", "A=(", "A=C[", "A=-(", "C=row(", "A=whole("};
        String[] tails = {";", ";", ";", "{}", "{}", "]=1;", ";", ");", "];", ");", ");", ");"};
        for (int i = 0; i < heads.length; i++) {
            on.reads(heads[i] + "1<2" + tails[i], 1);
            on.reads(heads[i] + "1~2" + tails[i], 1);
            breaks(heads[i] + "1<2~3" + tails[i], heads[i].length() + 3);
        }
        on.gives("give (1<2)<(3<4);", 0);
        breaks("A=1<2<3;", 5);
        breaks("A=1<2~3;", 5);
        breaks("A=1~2<3;", 5);
        breaks("A=1~2~3;", 5);
        breaks("A=(1<2<3);", 6);
        breaks("A=C[1<2<3];", 7);
    }

    private void oneBracket() {
        due.sentence("LOCAL [ '[' exp ']' ] | COLUMN [ '[' exp ']' ] (once at most, behind these alone)");
        breaks("A=C[0][0];", 6);
        breaks("C[0][0]=1;", 4);
        breaks("A=1[0];", 3);
        breaks("A=1.5[0];", 5);
        breaks("A=(C)[0];", 5);
        breaks("A=asrow(C)[0];", 10);
        breaks("A=-1[0];", 4);
        breaks("row(1)[0]=1;", 0);
        breaks("A=C[];", 4);
        breaks("C[]=1;", 2);
    }

    private void noExp() {
        due.sentence("exp (which is never empty)");
        breaks("A=;", 2);
        breaks("let a=;", 6);
        breaks("give;", 4);
        breaks("if{}", 2);
        breaks("repeat{}", 6);
        breaks("A=();", 3);
        breaks("A=size();", 7);
        breaks("A=-;", 3);
        breaks("A=1+;", 4);
        breaks("A=1<;", 4);
        breaks("A=+1;", 2);
        breaks("A=*1;", 2);
    }

    private void tapesLength() {
        due.sentence("FAULT 1: (THE TAPE's length)");
        breaks("s", 1);
        breaks("stop", 4);
        breaks("stop \n ", 7);
        breaks("A", 1);
        breaks("A=1", 3);
        breaks("A=1 ", 4);
        breaks("if 1{}else", 10);
        breaks("if 1{stop;", 10);
        breaks("A=(1", 4);
        breaks("A=C[1", 5);
        breaks("A=whole", 7);
        breaks(times("stop;", 299) + "give1", 1500);
    }

    /** Each text that is cut off within it breaks at its end, unless it ends behind a whole number of stats. */
    private void everyEnd() {
        due.sentence("FAULT 1: at the first byte or token with which no text goes on");
        String text = "let a1=row(3);a1[0]=-(1+2)*3;if A<2{C=a1;}else{repeat 2{stop;}}give size(C)~7;";
        String ends = "let a1=row(3);|a1[0]=-(1+2)*3;|if A<2{C=a1;}|else{repeat 2{stop;}}|give size(C)~7;";
        int[] whole = new int[text.length() + 1];
        int at = 0;
        for (String part : ends.split("\\|")) {
            at += part.length();
            whole[at] = 1;
        }
        whole[0] = 1;
        for (int n = 0; n <= text.length(); n++) {
            String cut = text.substring(0, n);
            ScriptLanguage x = Stage.set();
            due.is("read() of " + cut, Texts.read(x, cut) < 0 ? x.fault(1) : Stage.NONE, whole[n] == 1 ? Stage.NONE : n);
        }
    }

    private void inEachOther() {
        due.sentence("of ( [ and - in one 20 in each other at most (the 21st)");
        String[] opens = {"(", "C[", "-", "whole(", "asrow("};
        String[] closes = {")", "]", "", ")", ")"};
        String[] inside = {"1", "0", "1", "1", "C"};
        String[] places = {"A", "A", "A", "A", "C"};
        for (int i = 0; i < opens.length; i++) {
            for (int n = 19; n <= 22; n++) {
                String text = places[i] + "=" + times(opens[i], n) + inside[i] + times(closes[i], n) + ";";
                if (n <= 20) {
                    on.reads(text, 1);
                } else {
                    breaks(text, 2 + 21 * opens[i].length() - 1);
                }
            }
        }
        on.reads("C[" + times("(", 19) + "0" + times(")", 19) + "]=1;", 1);
        breaks("C[" + times("(", 20) + "0" + times(")", 20) + "]=1;", 21);
    }

    private void bracesInEachOther() {
        due.sentence("of { 20 in each other at most (the 21st)");
        String[] opens = {"if 1{", "repeat 1{", "if 1{}else{"};
        for (String open : opens) {
            on.reads(times(open, 20) + times("}", 20), 20);
            on.reads(times(open, 20) + "stop;" + times("}", 20), 21);
            breaks(times(open, 21) + times("}", 21), 20 * open.length() + open.indexOf('{'));
        }
    }

    private void mixedInEachOther() {
        due.sentence("of ( [ { and - in one 20 in each other at most (all of them together)");
        String[] opens = {"(", "C[", "-", "whole("};
        String[] closes = {")", "]", "", ")"};
        for (int braces = 0; braces <= 20; braces++) {
            String head = times("if 1{", braces) + "A=";
            String tail = ";" + times("}", braces);
            for (int i = 0; i < 4; i++) {
                int left = 20 - braces;
                on.reads(head + times(opens[i], left) + "0" + times(closes[i], left) + tail, braces + 1);
                breaks(head + times(opens[i], left + 1) + "0" + times(closes[i], left + 1) + tail,
                    head.length() + (left + 1) * opens[i].length() - 1);
            }
        }
        on.reads("A=" + times("-(", 10) + "1" + times(")", 10) + ";", 1);
        breaks("A=" + times("-(", 10) + "-1" + times(")", 10) + ";", 22);
        breaks("A=" + times("-(", 10) + "(1)" + times(")", 10) + ";", 22);
        breaks("A=" + times("-(", 10) + "C[0]" + times(")", 10) + ";", 23);
        breaks("A=" + times("-C[", 10) + "size(C)" + times("]", 10) + ";", 36);
        breaks(times("if 1{", 20) + "C[0]=1;" + times("}", 20), 101);
        breaks(times("if 1{", 20) + "if(1){}" + times("}", 20), 102);
        breaks(times("if 1{", 20) + "if 1{}" + times("}", 20), 104);
    }

    private void besideEachOther() {
        due.sentence("in each other (not beside each other)");
        on.reads("A=(1)" + times("+(1)", 30) + ";", 1);
        on.reads("A=-1" + times("--1", 30) + ";", 1);
        on.reads("A=C[0]" + times("+C[0]", 30) + ";", 1);
        on.reads(times("if(1){}else{}", 60), 60);
        on.reads("if " + times("(", 20) + "1" + times(")", 20) + times("{if 1", 19) + "{}" + times("}", 19), 20);
        on.reads("C[" + times("-", 19) + "1]=" + times("-", 20) + "1;", 1);
        on.reads("A=" + times("-", 20) + "1+" + times("(", 20) + "1" + times(")", 20) + ";", 1);
        on.reads("A=" + times("(", 19) + "-1+(1)-C[0]" + times(")", 19) + ";", 1);
        breaks("A=" + times("(", 19) + "-1+(1)-C[-0]" + times(")", 19) + ";", 30);
    }

    private void thirtySigns() {
        due.sentence("of signs between two a stat has 30 at most (the 31st)");
        String[] many = {"+", "-", "*", "/", "%"};
        for (String sign : many) {
            on.reads("A=1" + times(sign + "1", 30) + ";", 1);
            breaks("A=1" + times(sign + "1", 31) + ";", 63);
            breaks("A=1" + times(sign + "1", 40) + ";", 63);
        }
        String[] one = {"<", "~"};
        for (String sign : one) {
            on.reads("A=1" + times("*1", 29) + sign + "1;", 1);
            breaks("A=1" + times("*1", 30) + sign + "1;", 63);
            breaks("A=1" + sign + "1" + times("*1", 30) + ";", 63);
            on.reads("A=" + times("(1" + sign + "1)+", 15) + "1;", 1);
            breaks("A=" + times("(1" + sign + "1)+", 15) + "(1" + sign + "1);", 94);
        }
    }

    private void signsOfAStat() {
        due.sentence("of signs a stat has 30 (wherever they stand in it)");
        String thirty = "1" + times("+1", 30);
        String more = "1" + times("+1", 31);
        String[] heads = {"let a=", "A=", "give ", "if ", "repeat ", "C[", "C[0]=", "A=(", "A=C[", "A=whole("};
        String[] tails = {";", ";", ";", "{}", "{}", "]=1;", ";", ");", "];", ");"};
        for (int i = 0; i < heads.length; i++) {
            on.reads(heads[i] + thirty + tails[i], 1);
            breaks(heads[i] + more + tails[i], heads[i].length() + 61);
        }
        on.reads("C[1" + times("+1", 15) + "]=1" + times("+1", 15) + ";", 1);
        breaks("C[1" + times("+1", 15) + "]=1" + times("+1", 16) + ";", 66);
        breaks("A=(1" + times("+1", 20) + ")" + times("*1", 11) + ";", 65);
        on.reads(times("A=" + thirty + ";", 23), 23);
    }

    private void signsInBraces() {
        due.sentence("30 at most (but what stands in its { })");
        String thirty = "1" + times("+1", 30);
        String more = "1" + times("+1", 31);
        on.reads("if " + thirty + "{A=" + thirty + ";A=" + thirty + ";}else{A=" + thirty + ";}A=" + thirty + ";", 5);
        on.reads("repeat " + thirty + "{if " + thirty + "{A=" + thirty + ";}A=" + thirty + ";}", 4);
        breaks("if " + thirty + "{A=" + more + ";}", 3 + 61 + 1 + 2 + 61);
        breaks("if 1{}else{A=" + more + ";}", 13 + 61);
        breaks("if 1{}A=" + more + ";", 8 + 61);
    }

    private void noSignsBetweenTwo() {
        due.sentence("signs between two (- of one, [ and words are none)");
        on.reads("A=-1" + times("+-1", 30) + ";", 1);
        on.reads("A=--1" + times("*--1", 30) + ";", 1);
        on.reads("A=C[-1]" + times("+C[-1]", 30) + ";", 1);
        on.reads("A=whole(1)" + times("+whole(1)", 30) + ";", 1);
        breaks("A=-1" + times("--1", 31) + ";", 94);
    }

    private void bothAtOnce() {
        due.sentence("20 in each other at most; a stat has 30 at most (both at once, and all of it waits for what is innermost)");
        String deep = times("2<1+1*C[", 10) + times("C[", 10);
        on.reads("C[2]=" + deep + "0" + times("]", 20) + ";", 1);
        on.script("C[C[0]+2]=" + deep.replaceFirst("2<", "") + "0" + times("]", 20) + ";give C[0]*100+C[1]*10+C[2];");
        on.givesNow("the deepest text", 71);
        due.is("taken()", on.x.taken(), 1 + 2 + 29 + 20 + 1 + 1 + 7);
        String braces = times("if 1{", 19);
        on.reads(braces + "A=1" + times("+1", 29) + "+(1);" + times("}", 19), 20);
        breaks(braces + "A=1" + times("+1", 29) + "+(1+1);" + times("}", 19), 95 + 64);
    }

    private void textFaultFirst() {
        due.sentence("FAULT 1 ... Else at the least place (FAULT 1 is ahead of all others, wherever it is)");
        breaks("let a=1;let a=2;x=1;Z=1;A=1.5;E=1;?", 34);
        breaks("E=1;stop", 8);
        breaks("A=1+1.5", 7);
        breaks("x=1;A=1" + times("+1", 31) + ";", 67);
        breaks("x=1;A=" + times("(", 21) + "1;", 26);
        breaks("stop stop ?", 5);
    }

    private void statsInAll() {
        due.sentence("how many stats it has in all");
        on.reads("stop;", 1);
        on.reads("stop;stop;", 2);
        on.reads("if 1{stop;}", 2);
        on.reads("if 1{stop;}else{stop;}", 3);
        on.reads("repeat 1{repeat 1{repeat 1{stop;}}}", 4);
        on.reads("let a=1;a=2;A=3;C[0]=4;give 5;stop;if 6{}repeat 7{}", 8);
    }
}
