/** The edges of "1 TEXT" from the KINDS on: FAULTS 2 to 5, and which is told of several. A method for each sentence. */
public final class FaultBoundsTest {
    private static final int WHOLE = 0, REAL = 1, ROW = 2, ANY = 3;
    private static final String[] OF_KIND = {"A", "B", "C", "D"};
    private static final String EIGHT = "let a=1;let b=1;let c=1;let d=1;let e=1;let f=1;let g=1;let h=1;";
    private final Due due = new Due("FaultBoundsTest");
    private final Stage on = new Stage(due);

    private FaultBoundsTest() {
    }

    public static void main(String[] args) {
        FaultBoundsTest test = new FaultBoundsTest();
        test.signs();
        test.signsGive();
        test.negatives();
        test.brackets();
        test.bracketPlaces();
        test.words();
        test.wordsGive();
        test.wanted();
        test.localsHaveTheKind();
        test.comesToAPlace();
        test.seenAlready();
        test.ninth();
        test.ninthBehindBraces();
        test.notSeen();
        test.noColumn();
        test.seenFromBehind();
        test.seenToTheEnd();
        test.mayNotBeWritten();
        test.leastPlace();
        test.ofSeveral();
        test.fitsEverywhereElse();
        test.faultCalls();
        test.ofTheLatestRead();
        test.lessTheFault();
        test.noneThen();
        test.due.close();
    }

    /** The text is right if it fits, else its kinds do not, at the place. */
    private void fitsOrNot(String text, boolean fits, int place) {
        if (fits) {
            on.reads(text, 1);
        } else {
            on.faults(text, 4, place);
        }
    }

    private void signs() {
        due.sentence("signs want two WHOLES or two REALS; FAULT 4 at the sign");
        String[] signs = {"+", "-", "*", "/", "%", "<", "~"};
        for (String sign : signs) {
            for (int left = 0; left < 4; left++) {
                for (int right = 0; right < 4; right++) {
                    boolean fits = left == right && left <= REAL;
                    fitsOrNot("D=" + OF_KIND[left] + " " + sign + OF_KIND[right] + ";", fits, 4);
                }
            }
        }
    }

    private void signsGive() {
        due.sentence("+ - * / % give the same, < ~ WHOLE");
        String[] signs = {"+", "-", "*", "/", "%", "<", "~"};
        for (String sign : signs) {
            boolean compares = sign.equals("<") || sign.equals("~");
            for (int kind = WHOLE; kind <= REAL; kind++) {
                for (int place = 0; place < 3; place++) {
                    String exp = OF_KIND[kind] + sign + OF_KIND[kind];
                    fitsOrNot(OF_KIND[place] + "=" + exp + ";", place == (compares ? WHOLE : kind), 1);
                }
            }
        }
    }

    private void negatives() {
        due.sentence("- likewise of one; FAULT 4 at the sign");
        for (int kind = 0; kind < 4; kind++) {
            fitsOrNot("D= -" + OF_KIND[kind] + ";", kind <= REAL, 3);
        }
        for (int place = 0; place < 3; place++) {
            fitsOrNot(OF_KIND[place] + "=-A;", place == WHOLE, 1);
            fitsOrNot(OF_KIND[place] + "=-B;", place == REAL, 1);
        }
    }

    private void brackets() {
        due.sentence("[ ] is of a ROW, with a WHOLE in it: WHOLE; FAULT 4 at the [");
        for (int of = 0; of < 4; of++) {
            for (int in = 0; in < 4; in++) {
                fitsOrNot("D=" + OF_KIND[of] + " [" + OF_KIND[in] + "];", of == ROW && in == WHOLE, 4);
            }
        }
        for (int place = 0; place < 3; place++) {
            fitsOrNot(OF_KIND[place] + "=C[0];", place == WHOLE, 1);
        }
    }

    private void bracketPlaces() {
        due.sentence("[ ] is of a ROW (also as a place), and a WHOLE comes to it");
        for (int of = 0; of < 4; of++) {
            for (int in = 0; in < 4; in++) {
                fitsOrNot(OF_KIND[of] + " [" + OF_KIND[in] + "]=1;", of == ROW && in == WHOLE, 2);
            }
        }
        for (int comes = 0; comes < 4; comes++) {
            fitsOrNot("C[0] =" + OF_KIND[comes] + ";", comes == WHOLE, 5);
        }
    }

    private void words() {
        due.sentence("size of a ROW; row of a WHOLE; whole of WHOLE, REAL or ANY; real likewise; asrow of ROW or ANY; "
            + "FAULT 4 at the word");
        String[] words = {"size", "row", "whole", "real", "asrow"};
        int[][] takes = {{ROW}, {WHOLE}, {WHOLE, REAL, ANY}, {WHOLE, REAL, ANY}, {ROW, ANY}};
        for (int i = 0; i < words.length; i++) {
            for (int kind = 0; kind < 4; kind++) {
                boolean fits = false;
                for (int taken : takes[i]) {
                    fits = fits || taken == kind;
                }
                fitsOrNot("D= " + words[i] + " (" + OF_KIND[kind] + ");", fits, 3);
            }
        }
    }

    private void wordsGive() {
        due.sentence("size: WHOLE; row: ROW; whole, real: WHOLE, REAL; asrow: ROW");
        String[] exps = {"size(C)", "row(A)", "whole(A)", "whole(B)", "whole(D)", "real(A)", "real(B)", "real(D)", "asrow(C)", "asrow(D)"};
        int[] kinds = {WHOLE, ROW, WHOLE, WHOLE, WHOLE, REAL, REAL, REAL, ROW, ROW};
        for (int i = 0; i < exps.length; i++) {
            for (int place = 0; place < 3; place++) {
                fitsOrNot(OF_KIND[place] + "=" + exps[i] + ";", place == kinds[i], 1);
            }
        }
    }

    private void wanted() {
        due.sentence("if and repeat want WHOLES, give a WHOLE or REAL; FAULT 4 at the first token of the exp");
        for (int kind = 0; kind < 4; kind++) {
            fitsOrNot("if  " + OF_KIND[kind] + "{}", kind == WHOLE, 4);
            fitsOrNot("if (" + OF_KIND[kind] + "){}", kind == WHOLE, 3);
            fitsOrNot("repeat  " + OF_KIND[kind] + "{}", kind == WHOLE, 8);
            fitsOrNot("repeat(" + OF_KIND[kind] + "){}", kind == WHOLE, 6);
            fitsOrNot("give  " + OF_KIND[kind] + ";", kind <= REAL, 6);
            fitsOrNot("give((" + OF_KIND[kind] + "));", kind <= REAL, 4);
        }
        fitsOrNot("if -B{}", false, 3);
        fitsOrNot("if B+B{}", false, 3);
        fitsOrNot("if B<B{}", true, 0);
        fitsOrNot("repeat real(1){}", false, 7);
        fitsOrNot("give row(1);", false, 5);
    }

    private void localsHaveTheKind() {
        due.sentence("A LOCAL has the KIND of its exp");
        for (int kind = 0; kind < 4; kind++) {
            String let = "let a=" + OF_KIND[kind] + ";";
            for (int place = 0; place < 4; place++) {
                String text = let + OF_KIND[place] + "=a;";
                if (place == kind || place == ANY) {
                    on.reads(text, 2);
                } else {
                    on.faults(text, 4, let.length() + 1);
                }
                String back = let + "a=" + OF_KIND[place] + ";";
                if (place == kind || kind == ANY) {
                    on.reads(back, 2);
                } else {
                    on.faults(back, 4, let.length() + 1);
                }
            }
        }
    }

    private void comesToAPlace() {
        due.sentence("What comes to a place has its KIND, to an ANY any; FAULT 4 at the =");
        for (int place = 0; place < 4; place++) {
            for (int comes = 0; comes < 4; comes++) {
                fitsOrNot(OF_KIND[place] + "  =" + OF_KIND[comes] + ";", place == comes || place == ANY, 3);
            }
        }
    }

    private void seenAlready() {
        due.sentence("FAULT 2 'let' of a LOCAL that is seen there already (at its NAME)");
        on.faults("let a=1;let  a=2;", 2, 13);
        on.faults("let a=1;let b=1;let a=2;", 2, 20);
        on.faults("let a=1;if 1{let a=2;}", 2, 17);
        on.faults("let a=1;if 1{}else{let a=2;}", 2, 23);
        on.faults("let a=1;repeat 1{repeat 1{let a=2;}}", 2, 30);
        on.faults("let a=1;let a=1;let a=1;", 2, 12);
        on.faults(EIGHT + "let h=1;", 2, 68);
        on.reads("let a=1;let b=a;let aa=1;let ab=1;", 4);
    }

    private void ninth() {
        due.sentence("FAULT 2 'let' of a ninth that is seen (at its NAME)");
        on.reads(EIGHT, 8);
        on.faults(EIGHT + "let i=1;", 2, 68);
        on.faults(EIGHT + "if 1{let i=1;}", 2, 73);
        on.faults("if 1{" + EIGHT + "let i=1;}", 2, 73);
        on.faults(EIGHT + "let i=1;let j=1;", 2, 68);
        for (int outside = 0; outside <= 8; outside++) {
            String text = EIGHT.substring(0, 8 * outside) + "repeat 1{" + EIGHT.substring(8 * outside);
            on.reads(text + "}", 9);
            on.faults(text + "let i=1;}", 2, text.length() + 4);
        }
    }

    private void ninthBehindBraces() {
        due.sentence("a ninth that is seen (what was seen in { } before is not)");
        on.reads("if 1{" + EIGHT + "}else{" + EIGHT + "}" + EIGHT, 25);
        on.reads("if 1{" + EIGHT + "}let i=1;", 10);
        on.reads("let i=1;if 1{" + EIGHT.substring(8) + "}let a=1;", 10);
        on.faults("let i=1;if 1{" + EIGHT.substring(8) + "let a=1;}", 2, 73);
        on.faults("if 1{let z=1;}" + EIGHT + "let i=1;", 2, 82);
        on.gives("if 1{" + EIGHT + "}let i=5;let a=6;give i*10+a;", 56);
    }

    private void notSeen() {
        due.sentence("FAULT 3 a NAME of a LOCAL that is not seen");
        on.faults("a=1;", 3, 0);
        on.faults(" a=1;", 3, 1);
        on.faults("a[0]=1;", 3, 0);
        on.faults("A=a;", 3, 2);
        on.faults("A=a[0];", 3, 2);
        on.faults("A=-a;", 3, 3);
        on.faults("A=1+a;", 3, 4);
        on.faults("A=C[a];", 3, 4);
        on.faults("A=size(a);", 3, 7);
        on.faults("if a{}", 3, 3);
        on.faults("repeat a{}", 3, 7);
        on.faults("give a;", 3, 5);
        on.faults("let b=1;A=a;", 3, 10);
        on.faults("let abcdefgh=1;A=abcdefg;", 3, 17);
    }

    private void noColumn() {
        due.sentence("FAULT 3 a COLUMN that there is not");
        on.faults("I=1;", 3, 0);
        on.faults("Z=1;", 3, 0);
        on.faults("I[0]=1;", 3, 0);
        on.faults("A=I;", 3, 2);
        on.faults("A=I[0];", 3, 2);
        on.faults("give 1+Z;", 3, 7);
        ScriptLanguage x = new ScriptLanguage();
        for (char name = 'A'; name <= 'Z'; name++) {
            due.is("read() of " + name + " without COLUMNS", Texts.read(x, name + "=1;"), -13);
        }
        x.column('Z', 0, true);
        due.is("read() of a COLUMN that came", Texts.read(x, "Z=1;"), 1);
        due.is("read() of another", Texts.read(x, "Y=1;"), -13);
    }

    private void seenFromBehind() {
        due.sentence("A LOCAL is seen from behind its let on");
        on.faults("let a=a;", 3, 6);
        on.faults("let a=1+a;", 3, 8);
        on.faults("A=a;let a=1;", 3, 2);
        on.faults("repeat 2{A=a;let a=1;}", 3, 11);
        on.reads("let a=1;let b=a;", 2);
        on.reads("let a=1;a=a;", 2);
    }

    private void seenToTheEnd() {
        due.sentence("A LOCAL is seen to the end of the { } in which it is (or of the script)");
        on.faults("if 1{let a=1;}A=a;", 3, 16);
        on.faults("if 1{let a=1;}else{A=a;}", 3, 21);
        on.faults("if 1{}else{let a=1;}A=a;", 3, 22);
        on.faults("repeat 1{let a=1;}a=1;", 3, 18);
        on.faults("if 1{if 1{let a=1;}A=a;}", 3, 21);
        on.reads("let a=1;if a{if a{if a{a=2;}a=3;}}else{a=4;}A=a;", 8);
        on.reads("if 1{let a=1;}if 1{let a=1.5;B=a;}let a=C;C=a;", 7);
    }

    private void mayNotBeWritten() {
        due.sentence("FAULT 5 at the first token of a place of a COLUMN that may not be written (also of its ROW)");
        on.faults("E=1;", 5, 0);
        on.faults(" F=1.5;", 5, 1);
        on.faults("G=C;", 5, 0);
        on.faults("H=1;", 5, 0);
        on.faults("A=1; G [0]=1;", 5, 5);
        on.faults("if 1{G[0]=1;}", 5, 5);
        on.reads("A=E;B=F;C=G;D=H;A=G[0];C[E]=G[0];", 6);
        on.gives("let r=C;r[0]=3;give C[0];", 3);
        on.reads("let r=G;r[0]=1;", 2);
    }

    private void leastPlace() {
        due.sentence("Else at the least place");
        String[] texts = {"let a=1;", "let a=2;", "x=1;", "A=1.5;", "E=1;"};
        int[] faults = {0, 2, 3, 4, 5};
        int[] places = {0, 4, 0, 1, 0};
        for (int first = 1; first < 5; first++) {
            for (int second = 1; second < 5; second++) {
                on.faults(texts[0] + texts[first] + texts[second], faults[first], 8 + places[first]);
                on.faults(texts[0] + "if 1{" + texts[first] + "}else{" + texts[second] + "}", faults[first], 13 + places[first]);
            }
        }
        // What is asked only when the parts are known may yet stand ahead of what is wrong in them.
        on.faults("A=C+(1+1.5);", 4, 3);
        on.faults("A=C+x;", 4, 3);
        on.faults("A=x+C;", 3, 2);
        on.faults("A=B[x];", 4, 3);
        on.faults("B[x]=1;", 4, 1);
        on.faults("E=x;", 5, 0);
        on.faults("E=1.5;", 5, 0);
        on.faults("E[0]=1;", 5, 0);
        on.faults("let a=1;let a=x;", 2, 12);
        on.faults("if B{x=1;}", 4, 3);
        on.faults("give C[1.5]+x;", 4, 6);
    }

    private void ofSeveral() {
        due.sentence("of several the least (at one place)");
        on.faults("let a=1;let b=1;let c=1;let d=1;let e=1;let f=1;let g=1;let h=1;let a=x;", 2, 68);
        on.faults("if x{}", 3, 3);
        on.faults("give Z;", 3, 5);
        on.faults("repeat -C{}", 4, 7);
        on.faults("Z=1.5;", 3, 0);
        on.faults("Z[1.5]=x;", 3, 0);
    }

    private void fitsEverywhereElse() {
        due.sentence("(An exp in which something does not fit fits everywhere else.)");
        String[] bad = {"x", "Z", "(1+1.5)", "(-C)", "A[0]", "C[1.5]", "size(1)", "row(1.5)", "(1<x)", "(x+1)", "C[x]", "whole(x)"};
        int[] faults = {3, 3, 4, 4, 4, 4, 4, 4, 3, 3, 3, 3};
        int[] places = {0, 0, 2, 1, 1, 1, 0, 0, 3, 1, 2, 6};
        String[] heads = {"A=", "B=", "C=", "D=", "let a=", "give ", "if ", "repeat ", "C[", "C[0]=", "A=-", "A=1+", "B=1.5*", "A=1<",
            "B=1.5~", "A=C[", "A=size(", "C=row(", "A=whole(", "B=real(", "C=asrow(", "B=size(", "B=(", "C=-"};
        String[] tails = {";", ";", ";", ";", ";", ";", "{}", "{}", "]=1;", ";", ";", ";", ";", ";", ";", "];", ");", ");", ");", ");", ");",
            ");", ");", ";"};
        for (int i = 0; i < bad.length; i++) {
            for (int j = 0; j < heads.length; j++) {
                on.faults(heads[j] + bad[i] + tails[j], faults[i], heads[j].length() + places[i]);
            }
        }
        on.faults("let a=x;A=a;B=a;C=a;a[0]=1;A=a[0];", 3, 6);
        on.faults("A=1;Z=1.5;Z=C;Z[0]=1;", 3, 4);
    }

    private void faultCalls() {
        due.sentence("fault: which FAULT (what = 0; 0 none), its place (1; NONE). OUTSIDE");
        int[] wrong = {Stage.LEAST, -1, 2, 3, Stage.GREATEST};
        ScriptLanguage x = Stage.set();
        due.is("fault(0) ahead of the first read()", x.fault(0), 0);
        due.is("fault(1) ahead of the first read()", x.fault(1), Stage.NONE);
        String[] texts = {"", "?", "let a=1;let a=1;", " x=1;", "A=1.5;", "E=1;", "stop;"};
        int[] faults = {0, 1, 2, 3, 4, 5, 0};
        int[] places = {Stage.NONE, 0, 12, 1, 1, 0, Stage.NONE};
        for (int i = 0; i < texts.length; i++) {
            Texts.read(x, texts[i]);
            Texts.put(x, "?");
            due.is("fault(0) of the latest read()", x.fault(0), faults[i]);
            due.is("fault(1) of the latest read()", x.fault(1), places[i]);
            for (int what : wrong) {
                due.is("fault(" + what + ")", x.fault(what), Stage.OUTSIDE);
            }
        }
    }

    private void ofTheLatestRead() {
        due.sentence("fault: Of the latest read()");
        ScriptLanguage x = new ScriptLanguage();
        x.column('A', 0, true);
        Texts.read(x, "  B=1;");
        x.column('B', 0, true);
        x.cell(0, 0, 1);
        x.run(0, 9);
        Texts.put(x, "B=1;");
        due.is("fault(0), until there is another", x.fault(0), 3);
        due.is("fault(1), until there is another", x.fault(1), 2);
        due.is("read()", x.read(), 1);
        due.is("fault(0)", x.fault(0), 0);
        due.is("fault(1)", x.fault(1), Stage.NONE);
        x.column('C', 0, true);
        due.is("fault(0) when the script is gone", x.fault(0), 0);
    }

    private void lessTheFault() {
        due.sentence("read: -10 less the FAULT");
        String[] texts = {"?", "let a=1;let a=1;", "x=1;", "A=1.5;", "E=1;"};
        for (int i = 0; i < texts.length; i++) {
            due.is("read() of " + texts[i], Texts.read(Stage.set(), texts[i]), -11 - i);
        }
    }

    private void noneThen() {
        due.sentence("read: -10 less the FAULT (then there is none)");
        String[] texts = {"?", "let a=1;let a=1;", "x=1;", "A=1.5;", "E=1;"};
        for (String text : texts) {
            ScriptLanguage x = Stage.set();
            Texts.read(x, "give 1;");
            due.is("count(4)", x.count(4), 1);
            Texts.read(x, text);
            due.is("count(4) behind " + text, x.count(4), 0);
            due.is("run() behind " + text, x.run(0, 9), Stage.STATE);
            Texts.read(x, "give 2;");
            due.is("run() behind another read()", x.run(0, 9), 2);
            due.is("gave()", x.gave(), 2);
        }
    }
}
