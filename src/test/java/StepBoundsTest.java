/** The edges of "2 RUN" as to STEPS, and of promises 17 run, 20 place and 21 taken: a method for each sentence. */
public final class StepBoundsTest {
    private static final int NONE = Stage.NONE, OUTSIDE = Stage.OUTSIDE;
    private final Due due = new Due("StepBoundsTest");
    private final Stage on = new Stage(due);

    private StepBoundsTest() {
    }

    public static void main(String[] args) {
        StepBoundsTest test = new StepBoundsTest();
        test.stats();
        test.rounds();
        test.signs();
        test.negatives();
        test.brackets();
        test.words();
        test.noSteps();
        test.aheadOfWhatItDoes();
        test.fromTheLeft();
        test.placeFromTheLeft();
        test.justAsMany();
        test.oneStep();
        test.fourHundred();
        test.stepsOutside();
        test.objectsUnknown();
        test.noScript();
        test.ifs();
        test.repeatOfNone();
        test.repeatOnce();
        test.stops();
        test.gives();
        test.takenAhead();
        test.takenAll();
        test.takenOfTheLatest();
        test.placeOfTheLatest();
        test.gaveOfTheLatest();
        test.due.close();
    }

    /**
     * The places at which the steps of a text are taken, in their order: with just as many the run does not fail, with
     * fewer it is SPENT at the next of them.
     */
    private void steps(String text, int... places) {
        on.script(text);
        int outcome = on.x.run(0, 400);
        due.is("run() of " + text, outcome < 0 ? outcome : 0, 0);
        due.is("taken() of " + text, on.x.taken(), places.length);
        for (int n = 1; n < places.length; n++) {
            on.script(text);
            on.failsNow(text, n, Stage.SPENT, places[n]);
            due.is("taken() of " + text + " with " + n, on.x.taken(), n);
        }
        if (places.length > 0) {
            on.script(text);
            due.is("run() of " + text + " with just as many", on.x.run(0, places.length), outcome);
            due.is("taken()", on.x.taken(), places.length);
        }
    }

    private void stats() {
        due.sentence("A STEP is taken: at the first token of each stat, ahead of it");
        steps("");
        steps(" stop;", 1);
        steps("A=1; A=2;\nlet a=3; a=4; stop;", 0, 5, 10, 19, 24);
        steps("give 1;", 0);
        steps("if 1{ A=1; }A=2;", 0, 6, 12);
        steps("if 0{ A=1; }A=2;", 0, 12);
        steps("if 0{}else{ A=1;A=2;}", 0, 12, 16);
        steps("if 1{ A=1; }else{ A=2; }A=3;", 0, 6, 24);
        steps("if 0{ A=1; }else{ A=2; }A=3;", 0, 18, 24);
        steps("if 1{}else{A=1;}", 0);
        steps("if 1{if 1{if 1{}}}", 0, 5, 10);
    }

    private void rounds() {
        due.sentence("at 'repeat' for each round, ahead of it");
        steps(" repeat 0{A=1;}", 1);
        steps(" repeat 1{}", 1, 1);
        steps(" repeat 3{}", 1, 1, 1, 1);
        steps("repeat 2{ A=1;}stop;", 0, 0, 10, 0, 10, 15);
        steps("repeat 2{ repeat 2{}}", 0, 0, 10, 10, 10, 0, 10, 10, 10);
        steps("repeat 1+1{}", 0, 8, 0, 0);
    }

    private void signs() {
        due.sentence("at each sign between two");
        steps("A=1+2;", 0, 3);
        steps("A=1+2*3;", 0, 5, 3);
        steps("A=1*2+3;", 0, 3, 5);
        steps("A=1-2-3;", 0, 3, 5);
        steps("A=1-(2-3);", 0, 6, 3);
        steps("A=6/3%2;", 0, 3, 5);
        steps("A=1+1<2*1;", 0, 3, 7, 5);
        steps("A=1~2;", 0, 3);
        steps("B=1.5+2.5*B;", 0, 9, 5);
        steps("if 1<2{}", 0, 4);
        steps("give B~1.5;", 0, 6);
    }

    private void negatives() {
        due.sentence("at - of one");
        steps("A=-1;", 0, 2);
        steps("A=- -1;", 0, 4, 2);
        steps("A=-(1+2);", 0, 5, 2);
        steps("A=-1+-2;", 0, 2, 5, 4);
        steps("B=-B;", 0, 2);
        steps("A=-C[0];", 0, 4, 2);
    }

    private void brackets() {
        due.sentence("at [");
        steps("A=C[0];", 0, 3);
        steps("A=C[1-1];", 0, 5, 3);
        steps("A=C[C[0]];", 0, 5, 3);
        steps("C[0]=1;", 0, 1);
        steps("C[1-1]=1+2;", 0, 3, 8, 1);
        steps("C[C[0]]=C[1];", 0, 3, 9, 1);
        steps("let r=C;r[0]=r[1];", 0, 8, 14, 9);
    }

    private void words() {
        due.sentence("at each word with (, when what it wants is worked out");
        steps("A=size(C);", 0, 2);
        steps("C=row(2);", 0, 2);
        steps("A=whole(A);", 0, 2);
        steps("A=whole(B);", 0, 2);
        steps("D=1;A=whole(D);", 0, 4, 6);
        steps("B=real(A);", 0, 2);
        steps("B=real(B);", 0, 2);
        steps("D=1.5;B=real(D);", 0, 6, 8);
        steps("C=asrow(C);", 0, 2);
        steps("D=C;C=asrow(D);", 0, 4, 6);
        steps("A=size(row(1+1));", 0, 12, 7, 2);
        steps("A=whole(whole(1));", 0, 8, 2);
    }

    private void noSteps() {
        due.sentence("A STEP is taken (and none at what else there is)");
        steps("A=1;", 0);
        steps("A=((A));", 0);
        steps("B=1.5;", 0);
        steps("let a=A;A=a;", 0, 8);
        steps("D=D;", 0);
        steps("C=C;", 0);
    }

    private void aheadOfWhatItDoes() {
        due.sentence("ahead of what it does (SPENT comes ahead of what would FAIL there)");
        String[] texts = {"A=1/0;", "A=1%0;", "A=C[9];", "C=row(21);", "A=whole(D);", "B=real(D);", "C=asrow(D);", "C[9]=1;"};
        int[] places = {3, 3, 3, 2, 2, 2, 2, 1};
        int[] fails = {1, 1, 2, 7, 3, 3, 3, 2};
        for (int i = 0; i < texts.length; i++) {
            on.script(texts[i]);
            on.failsNow(texts[i], 1, Stage.SPENT, places[i]);
            due.is("taken()", on.x.taken(), 1);
            on.failsNow(texts[i], 2, fails[i], places[i]);
            due.is("taken(): the STEP is taken", on.x.taken(), 2);
        }
        on.script("A=E;");
        on.failsNow("A=E;", 1, Stage.NULL, 2);
        due.is("taken(): a COLUMN takes none", on.x.taken(), 1);
    }

    private void fromTheLeft() {
        due.sentence("Parts are worked out from the left");
        on.fails("A=1/0+E;", 1, 3);
        on.fails("A=E+1/0;", 3, 2);
        on.fails("A=E<C[9];", 3, 2);
        on.fails("A=C[9]~E;", 2, 3);
        on.fails("A=1/0*size(row(21));", 1, 3);
        on.fails("A=G[1/0];", 3, 2);
        on.fails("A=C[E];", 3, 4);
    }

    private void placeFromTheLeft() {
        due.sentence("of a place with [ ]: its ROW, what is in [ ], then the exp; then the [");
        steps("C[-0]=-1;", 0, 2, 6, 1);
        on.script("let r=C;r[1/0]=E;");
        on.failsNow("the ROW is there, [ ] fails", 400, 1, 11);
        on.script("C[9]=E;");
        on.failsNow("the exp fails ahead of the [", 400, 3, 5);
        on.script("C[9]=1;");
        on.failsNow("the [ fails", 400, 2, 1);
        on.script("C[1/0]=E;");
        on.x.miss(0, 2);
        on.failsNow("the ROW fails first", 400, 3, 0);
    }

    private void justAsMany() {
        due.sentence("6 SPENT: a STEP more than it may take");
        for (int rounds = 0; rounds < 133; rounds++) {
            String text = "repeat " + rounds + "{A=A+1;}";
            int steps = 1 + 3 * rounds;
            on.script(text);
            due.is("run() of " + text, on.x.run(0, steps), 0);
            due.is("taken()", on.x.taken(), steps);
            due.is("whole()", on.x.whole(0, 0), 4 + rounds);
            if (rounds > 0) {
                on.failsNow(text, steps - 1, Stage.SPENT, text.indexOf('+'));
                due.is("taken()", on.x.taken(), steps - 1);
                due.is("whole()", on.x.whole(0, 0), 4 + rounds);
            }
        }
    }

    private void oneStep() {
        due.sentence("run: steps 1 to 400 (1)");
        on.script("stop;");
        due.is("run(0, 1) of stop;", on.x.run(0, 1), 1);
        on.script("A=9;");
        due.is("run(0, 1) of A=9;", on.x.run(0, 1), 0);
        due.is("whole()", on.x.whole(0, 0), 9);
        on.script("give 7;stop;");
        due.is("run(0, 1) of give 7;", on.x.run(0, 1), 2);
        due.is("gave()", on.x.gave(), 7);
        on.script("A=9;A=8;");
        on.failsNow("A=9;A=8;", 1, Stage.SPENT, 4);
        due.is("whole()", on.x.whole(0, 0), 4);
    }

    private void fourHundred() {
        due.sentence("run: steps 1 to 400 (400)");
        on.script("repeat 199{A=1;}A=2;");
        due.is("run(0, 400) of 400 STEPS", on.x.run(0, 400), 0);
        due.is("taken()", on.x.taken(), 400);
        due.is("whole()", on.x.whole(0, 0), 2);
        on.failsNow("400 STEPS", 399, Stage.SPENT, 16);
        on.script("repeat 199{A=1;}A=2;A=3;");
        on.failsNow("401 STEPS", 400, Stage.SPENT, 20);
        due.is("taken()", on.x.taken(), 400);
        on.script("repeat 999999999{}");
        on.failsNow("rounds without an end", 400, Stage.SPENT, 0);
        due.is("taken()", on.x.taken(), 400);
        on.script(Texts.times("A=1;", 374));
        due.is("run() of 374 stats", on.x.run(0, 400), 0);
        on.failsNow("374 stats", 373, Stage.SPENT, 4 * 373);
    }

    private void stepsOutside() {
        due.sentence("run: OUTSIDE: steps not 1 to 400");
        int[] wrong = {Stage.LEAST, -400, -1, 0, 401, 402, 1000, Stage.GREATEST};
        for (int steps : wrong) {
            on.script("A=9;");
            due.is("run(0, " + steps + ")", on.x.run(0, steps), OUTSIDE);
            due.is("whole(): it did nothing", on.x.whole(0, 0), 4);
            due.is("count(3)", on.x.count(3), 0);
        }
    }

    private void objectsUnknown() {
        due.sentence("run: UNKNOWN");
        int[] wrong = {Stage.LEAST, -1, 20, 21, Stage.GREATEST};
        on.script("A=9;");
        for (int object : wrong) {
            due.is("run(" + object + ", 1)", on.x.run(object, 1), Stage.UNKNOWN);
        }
        for (int object = 0; object < 20; object++) {
            due.is("run(" + object + ", 1)", on.x.run(object, 1), 0);
            due.is("whole(" + object + ")", on.x.whole(object, 0), 9);
            due.is("count(1): no other OBJECT", on.x.count(1), 3 + object);
        }
    }

    private void noScript() {
        due.sentence("run: STATE: there is no script");
        ScriptLanguage x = new ScriptLanguage();
        due.is("run() of a new object", x.run(0, 1), Stage.STATE);
        Texts.put(x, "stop;");
        due.is("run() of a tape that is not read", x.run(0, 1), Stage.STATE);
        x.read();
        due.is("run() of a script", x.run(0, 1), 1);
        due.is("run() again: it is still there", x.run(0, 1), 1);
        Texts.read(x, "?");
        due.is("run() behind a FAULT", x.run(0, 1), Stage.STATE);
        due.is("count(3)", x.count(3), 0);
    }

    private void ifs() {
        due.sentence("if: all but 0 does the first { }");
        int[] numbers = {Stage.LEAST, -1, 0, 1, 2, Stage.GREATEST};
        for (int number : numbers) {
            on.script("if A{give 1;}else{give 2;}");
            on.x.cell(0, 0, number);
            on.givesNow("if " + number, number == 0 ? 2 : 1);
            on.script("if A{give 1;}give 3;");
            on.x.cell(0, 0, number);
            on.givesNow("if without else " + number, number == 0 ? 3 : 1);
        }
    }

    private void repeatOfNone() {
        due.sentence("repeat: so many rounds (none below 0)");
        int[] none = {Stage.LEAST, -400, -1, 0};
        for (int rounds : none) {
            on.script("repeat A{give 1;}give 2;");
            on.x.cell(0, 0, rounds);
            on.givesNow("repeat " + rounds, 2);
            due.is("taken()", on.x.taken(), 2);
        }
        for (int rounds = 1; rounds < 5; rounds++) {
            on.gives("let n=0;repeat " + rounds + "{n=n+1;}give n;", rounds);
        }
        on.script("repeat A{}");
        on.x.cell(0, 0, Stage.GREATEST);
        on.failsNow("repeat of the greatest", 400, Stage.SPENT, 0);
    }

    private void repeatOnce() {
        due.sentence("repeat: it is worked out once");
        on.gives("let n=0;repeat A{A=A-1;n=n+1;}give n;", 4);
        on.gives("let n=0;repeat A{A=9;n=n+1;}give n;", 4);
        on.gives("let n=2;let k=0;repeat n{n=0;k=k+1;}give k;", 2);
        on.gives("let n=0;repeat 3{repeat n{n=n+1;}n=n+1;}give n;", 7);
        on.gives("let n=0;repeat 2{repeat 2{repeat 2{n=n+1;}n=n+10;}n=n+100;}give n;", 248);
        on.gives("let n=0;repeat 2{repeat 0{n=n+1;}repeat 3{n=n+10;}}give n;", 60);
        String twenty = Texts.times("repeat 1{", 19) + "repeat 3{A=A+1;}" + Texts.times("}", 19);
        on.gives(twenty + "give A;", 7);
        due.is("taken() of 20 in each other", on.x.taken(), 19 * 2 + 1 + 3 * 3 + 1);
        on.gives(twenty + twenty + "give A;", 10);
    }

    private void stops() {
        due.sentence("run: 0 it came to its end, 1 by stop");
        on.script("A=1;");
        due.is("run() to its end", on.x.run(0, 9), 0);
        on.script("A=1;stop;A=2;");
        due.is("run() by stop", on.x.run(0, 9), 1);
        due.is("whole(): what came before it is done", on.x.whole(0, 0), 1);
        on.script("repeat 3{repeat 3{if 1{A=A+1;stop;}}}A=9;");
        due.is("run() by stop within", on.x.run(0, 99), 1);
        due.is("whole()", on.x.whole(0, 0), 5);
        due.is("gave()", on.x.gave(), 0);
        due.is("place()", on.x.place(), NONE);
    }

    private void gives() {
        due.sentence("run: 2 it gave a WHOLE, 3 a REAL");
        on.gives("give A;", 4);
        on.gives("give 0;", 0);
        on.givesReal("give B;", 2.5);
        on.givesReal("give 0.0;", 0.0);
        on.gives("A=5;repeat 3{if 1{give A;}}A=9;", 5);
        due.is("whole(): what came before it is done, behind it nothing", on.x.whole(0, 0), 5);
        on.gives("give B<B;", 0);
    }

    private void takenAhead() {
        due.sentence("taken: 0 ahead of the first");
        ScriptLanguage x = new ScriptLanguage();
        due.is("taken() of a new object", x.taken(), 0);
        Texts.read(x, "stop;");
        due.is("taken() behind read()", x.taken(), 0);
        x.run(0, 0);
        x.run(20, 1);
        due.is("taken() behind runs that are refused", x.taken(), 0);
        x.run(0, 1);
        due.is("taken() behind the first", x.taken(), 1);
    }

    private void takenAll() {
        due.sentence("taken: How many STEPS it took (all, if it is SPENT)");
        for (int steps = 1; steps <= 400; steps += 7) {
            on.script("repeat 400{}");
            on.failsNow("repeat 400{}", steps, Stage.SPENT, 0);
            due.is("taken()", on.x.taken(), steps);
        }
    }

    private void takenOfTheLatest() {
        due.sentence("taken: of the latest run()");
        on.script("if A{A=0;stop;}A=1/A;");
        due.is("run()", on.x.run(0, 9), 1);
        due.is("taken()", on.x.taken(), 3);
        due.is("run() that fails", on.x.run(0, 9), -2);
        due.is("taken()", on.x.taken(), 3);
        due.is("run() that is spent", on.x.run(0, 2), -7);
        due.is("taken()", on.x.taken(), 2);
        on.x.run(0, 401);
        on.x.run(-1, 1);
        Texts.read(on.x, "?");
        on.x.run(0, 1);
        due.is("taken() behind runs that are refused", on.x.taken(), 2);
        Texts.read(on.x, "");
        on.x.run(0, 1);
        due.is("taken() of an empty script", on.x.taken(), 0);
    }

    private void placeOfTheLatest() {
        due.sentence("place: The place at which it FAILED; NONE");
        ScriptLanguage x = Stage.set();
        due.is("place() ahead of the first", x.place(), NONE);
        Texts.read(x, "A=1/A;");
        x.run(0, 9);
        due.is("place() behind one that did not FAIL", x.place(), NONE);
        x.run(0, 9);
        due.is("place() behind one that FAILED", x.place(), 3);
        x.run(0, 0);
        due.is("place() behind one that is refused", x.place(), 3);
        Texts.read(x, "?");
        due.is("place() behind read()", x.place(), 3);
        Texts.read(x, "stop;");
        x.run(0, 9);
        due.is("place() behind stop", x.place(), NONE);
        Texts.read(x, "A=E;");
        x.run(0, 9);
        due.is("place() of a NULL", x.place(), 2);
        Texts.read(x, "give 1;");
        x.run(0, 9);
        due.is("place() behind give", x.place(), NONE);
    }

    private void gaveOfTheLatest() {
        due.sentence("gave, gaveReal: that the latest run() gave; 0; 0.0");
        ScriptLanguage x = Stage.set();
        due.is("gave() ahead of the first", x.gave(), 0);
        due.isReal("gaveReal() ahead of the first", x.gaveReal(), 0.0);
        String[] texts = {"give 5;", "give 2.5;", "give 6;", "stop;", "give 2.5;", "A=1;", "give 7;", "A=1/0;", "give 3.5;", "A=1/0;"};
        int[] wholes = {5, 0, 6, 0, 0, 0, 7, 0, 0, 0};
        double[] reals = {0.0, 2.5, 0.0, 0.0, 2.5, 0.0, 0.0, 0.0, 3.5, 0.0};
        for (int i = 0; i < texts.length; i++) {
            Texts.read(x, texts[i]);
            x.run(0, 9);
            due.is("gave() behind " + texts[i], x.gave(), wholes[i]);
            due.isReal("gaveReal() behind " + texts[i], x.gaveReal(), reals[i]);
            x.run(20, 9);
            x.run(0, 0);
            due.is("gave() behind runs that are refused", x.gave(), wholes[i]);
            due.isReal("gaveReal() behind runs that are refused", x.gaveReal(), reals[i]);
        }
        int[] edges = {Stage.LEAST, -1000009, -1, Stage.GREATEST};
        Texts.read(x, "give A;");
        for (int edge : edges) {
            x.cell(0, 0, edge);
            x.run(0, 9);
            due.is("gave()", x.gave(), edge);
        }
    }
}
