/** The edges of promises 2 feed and 3 end, and of what 15 read and 22 count say of the tape: a method for each sentence. */
public final class TapeBoundsTest {
    private static final int OUTSIDE = Stage.OUTSIDE, ROOM = Stage.ROOM, LEAST = Stage.LEAST, GREATEST = Stage.GREATEST;
    private static final int BLANKS = 0x20202020;
    private final Due due = new Due("TapeBoundsTest");

    private TapeBoundsTest() {
    }

    public static void main(String[] args) {
        TapeBoundsTest test = new TapeBoundsTest();
        test.mostBytes();
        test.twentyBytes();
        test.highestFirst();
        test.allBytes();
        test.howManyItHas();
        test.roomChangesNothing();
        test.keepsItsFirst();
        test.whatIsCutIsGone();
        test.endOutside();
        test.endBeyondTheMost();
        test.emptyThen();
        test.fromNowOn();
        test.fullTapeIsRead();
        test.emptyScript();
        test.due.close();
    }

    private static void feedText(ScriptLanguage x, String twenty) {
        byte[] b = Texts.bytes(twenty);
        x.feed(Texts.number(b, 0), Texts.number(b, 4), Texts.number(b, 8), Texts.number(b, 12), Texts.number(b, 16));
    }

    private static ScriptLanguage fed(int times) {
        ScriptLanguage x = new ScriptLanguage();
        for (int i = 0; i < times; i++) {
            x.feed(BLANKS, BLANKS, BLANKS, BLANKS, BLANKS);
        }
        return x;
    }

    private void mostBytes() {
        due.sentence("THE TAPE has 1500 bytes at most");
        for (int n = 1460; n <= 1500; n++) {
            ScriptLanguage x = fed(75);
            x.end(n);
            due.is("feed() at " + n, x.feed(BLANKS, BLANKS, BLANKS, BLANKS, BLANKS), n <= 1480 ? n + 20 : ROOM);
            due.is("count(2) behind it", x.count(2), n <= 1480 ? n + 20 : n);
        }
    }

    private void twentyBytes() {
        due.sentence("Twenty bytes come behind THE TAPE");
        for (int before = 0; before <= 60; before++) {
            for (int i = 0; i < 20; i++) {
                ScriptLanguage x = fed(3);
                x.end(before);
                feedText(x, Texts.times(" ", i) + "?" + Texts.times(" ", 19 - i));
                due.is("read() of a ? as byte " + i, x.read(), -11);
                due.is("fault(1) of a ? as byte " + i + " behind " + before, x.fault(1), before + i);
            }
        }
    }

    private void highestFirst() {
        due.sentence("each number's highest first");
        ScriptLanguage x = new ScriptLanguage();
        x.feed(0x67697665, 0x20313233, 0x34352b36, 0x3730303b, 0x0a200a20);
        due.is("read()", x.read(), 1);
        due.is("run()", x.run(0, 9), 2);
        due.is("gave()", x.gave(), 12345 + 6700);
    }

    private void allBytes() {
        due.sentence("Twenty bytes (each may be any)");
        for (int b = 0; b < 256; b++) {
            ScriptLanguage x = new ScriptLanguage();
            x.feed(BLANKS, b << 24 | 0x202020, BLANKS, BLANKS, BLANKS);
            x.end(5);
            boolean blank = b == 32 || b == 10;
            boolean name = b >= 'a' && b <= 'z' || b >= 'A' && b <= 'Z';
            due.is("read() of byte " + b, x.read(), blank ? 0 : -11);
            due.is("fault(1) of byte " + b, x.fault(1), blank ? Stage.NONE : name ? 5 : 4);
        }
    }

    private void howManyItHas() {
        due.sentence("how many it has");
        ScriptLanguage x = new ScriptLanguage();
        for (int n = 1; n <= 75; n++) {
            due.is("feed() number " + n, x.feed(BLANKS, n, 0, -1, BLANKS), 20 * n);
            due.is("count(2)", x.count(2), 20 * n);
        }
        due.is("feed() number 76", x.feed(BLANKS, BLANKS, BLANKS, BLANKS, BLANKS), ROOM);
    }

    private void roomChangesNothing() {
        due.sentence("ROOM; then nothing changes");
        for (int n = 1481; n <= 1500; n++) {
            ScriptLanguage x = fed(75);
            x.end(n);
            due.is("feed() at " + n, x.feed(-1, -1, -1, -1, -1), ROOM);
            due.is("count(2)", x.count(2), n);
            due.is("end() of what a part of it would have had", x.end(n + 1), OUTSIDE);
            due.is("read() of blanks alone", x.read(), 0);
        }
    }

    private void keepsItsFirst() {
        due.sentence("THE TAPE keeps its first n bytes: n");
        String text = "stop;stop;stop;stop;";
        for (int n = 0; n <= 20; n++) {
            ScriptLanguage x = new ScriptLanguage();
            feedText(x, text);
            due.is("end(" + n + ")", x.end(n), n);
            due.is("count(2)", x.count(2), n);
            due.is("read()", x.read(), n % 5 == 0 ? n / 5 : -11);
            due.is("fault(1)", x.fault(1), n % 5 == 0 ? Stage.NONE : n);
        }
    }

    private void whatIsCutIsGone() {
        due.sentence("THE TAPE keeps its first n bytes (and no other)");
        ScriptLanguage x = new ScriptLanguage();
        feedText(x, "stop;??????????????? ");
        due.is("end(5)", x.end(5), 5);
        due.is("end(6) does not bring it back", x.end(6), OUTSIDE);
        due.is("end(20) does not bring it back", x.end(20), OUTSIDE);
        feedText(x, "stop;               ");
        due.is("count(2)", x.count(2), 25);
        due.is("read(): what comes, comes behind the five", x.read(), 2);
    }

    private void endOutside() {
        due.sentence("end: OUTSIDE");
        int[] lengths = {0, 1, 19, 20};
        for (int length : lengths) {
            int[] wrong = {-1, LEAST, length + 1, 21, 1500, 1501, GREATEST};
            for (int n : wrong) {
                ScriptLanguage x = new ScriptLanguage();
                feedText(x, "stop;stop;stop;stop;");
                x.end(length);
                due.is("end(" + n + ") of " + length, x.end(n), OUTSIDE);
                due.is("count(2)", x.count(2), length);
            }
        }
    }

    private void endBeyondTheMost() {
        due.sentence("the bytes that THE TAPE has at most, and end() beyond them");
        ScriptLanguage x = fed(75);
        due.is("end(1501)", x.end(1501), OUTSIDE);
        due.is("end(-1)", x.end(-1), OUTSIDE);
        due.is("count(2)", x.count(2), 1500);
        due.is("end(1500)", x.end(1500), 1500);
        due.is("end(1499)", x.end(1499), 1499);
        due.is("end(1500) behind end(1499)", x.end(1500), OUTSIDE);
        due.is("end(0)", x.end(0), 0);
        due.is("feed() behind end(0)", x.feed(BLANKS, BLANKS, BLANKS, BLANKS, BLANKS), 20);
    }

    private void emptyThen() {
        due.sentence("THE TAPE, which is empty then");
        String[] texts = {"", " ", "stop;", "stop", "?", "A=1;", "let a=1;let a=1;"};
        for (String text : texts) {
            ScriptLanguage x = new ScriptLanguage();
            Texts.read(x, text);
            due.is("count(2) behind read() of " + text, x.count(2), 0);
            due.is("end(1)", x.end(1), OUTSIDE);
            due.is("read() of the empty tape", x.read(), 0);
            due.is("feed()", x.feed(BLANKS, BLANKS, BLANKS, BLANKS, BLANKS), 20);
        }
    }

    private void fromNowOn() {
        due.sentence("THE TAPE is the script from now on");
        ScriptLanguage x = new ScriptLanguage();
        Texts.read(x, "give 1;");
        Texts.put(x, "give 2;");
        due.is("run(): what comes on the tape later is no script yet", x.run(0, 9), 2);
        due.is("gave()", x.gave(), 1);
        x.end(0);
        due.is("count(4) behind end(0)", x.count(4), 1);
        x.run(0, 9);
        due.is("gave() behind end(0)", x.gave(), 1);
        Texts.read(x, "give 3;");
        x.run(0, 9);
        due.is("gave() behind another read()", x.gave(), 3);
    }

    private void fullTapeIsRead() {
        due.sentence("THE TAPE has 1500 bytes at most (and a script may have as many)");
        ScriptLanguage x = new ScriptLanguage();
        due.is("read() of 300 stats", Texts.read(x, Texts.times("stop;", 300)), 300);
        x = new ScriptLanguage();
        due.is("read() of a last token cut off", Texts.read(x, Texts.times(" ", 1496) + "stop"), -11);
        due.is("fault(1): THE TAPE's length", x.fault(1), 1500);
        x = new ScriptLanguage();
        due.is("read() of a last byte that begins no token", Texts.read(x, Texts.times("\n", 1499) + "."), -11);
        due.is("fault(1)", x.fault(1), 1499);
        x = new ScriptLanguage();
        due.is("read() of a name at the end", Texts.read(x, Texts.times(" ", 1491) + "let abcde"), -11);
        due.is("fault(1)", x.fault(1), 1500);
        x = new ScriptLanguage();
        due.is("read() of a real at the end", Texts.read(x, Texts.times(" ", 1490) + "give 1.123"), -11);
        due.is("fault(1)", x.fault(1), 1500);
        x = new ScriptLanguage();
        due.is("read() of 1500 blanks", Texts.read(x, Texts.times(" ", 1500)), 0);
        x = new ScriptLanguage();
        String deep = "A=" + Texts.times("-", 20) + "1;";
        x.column('A', 0, true);
        due.is("read() of many signs", Texts.read(x, Texts.times(deep, 62)), 62);
        due.is("run() of many signs", x.run(0, 400), -7);
    }

    private void emptyScript() {
        due.sentence("script = stat * (an empty script)");
        String[] texts = {"", " ", "\n", " \n\n  "};
        for (String text : texts) {
            ScriptLanguage x = new ScriptLanguage();
            due.is("read()", Texts.read(x, text), 0);
            due.is("fault(0)", x.fault(0), 0);
            due.is("fault(1)", x.fault(1), Stage.NONE);
            due.is("count(4)", x.count(4), 1);
            due.is("run() with one step", x.run(0, 1), 0);
            due.is("taken()", x.taken(), 0);
            due.is("place()", x.place(), Stage.NONE);
            due.is("run() of the last object", x.run(19, 400), 0);
            due.is("count(3)", x.count(3), 0);
        }
    }
}
