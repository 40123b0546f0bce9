/** Promises 2 feed, 3 end, and what 15 read and 22 count say of the tape. */
public final class TapeTest {
    private TapeTest() {
    }

    public static void main(String[] args) {
        Due due = new Due("TapeTest");
        order(due);
        room(due);
        ends(due);
        emptied(due);
        due.close();
    }

    private static void order(Due due) {
        ScriptLanguage x = new ScriptLanguage();
        // "give" " 123" "45+6" "000;" and four blanks: the highest byte of each number comes first.
        due.is("feed", x.feed(0x67697665, 0x20313233, 0x34352b36, 0x3030303b, 0x20202020), 20);
        due.is("read", x.read(), 1);
        due.is("run", x.run(0, 9), 2);
        due.is("gave", x.gave(), 18345);
    }

    private static void room(Due due) {
        ScriptLanguage x = new ScriptLanguage();
        for (int n = 1; n <= 75; n++) {
            due.is("feed " + n, x.feed(0x20202020, 0x0a0a0a0a, 0x20202020, 0x20202020, 0x20202020), 20 * n);
        }
        due.is("feed beyond 1500", x.feed(1, 2, 3, 4, 5), ScriptLanguage.ROOM);
        due.is("count(2)", x.count(2), 1500);
        due.is("end(1481)", x.end(1481), 1481);
        due.is("feed with 19 bytes left", x.feed(1, 2, 3, 4, 5), ScriptLanguage.ROOM);
        due.is("count(2)", x.count(2), 1481);
        due.is("end(1480)", x.end(1480), 1480);
        due.is("feed with 20 bytes left", x.feed(0x20202020, 0x20202020, 0x20202020, 0x20202020, 0x73746f70), 1500);
        due.is("read: 'stop' goes on at the tape's length", x.read(), -11);
        due.is("fault(1)", x.fault(1), 1500);
    }

    private static void ends(Due due) {
        ScriptLanguage x = new ScriptLanguage();
        due.is("end(0) of an empty tape", x.end(0), 0);
        due.is("end(1) of an empty tape", x.end(1), ScriptLanguage.OUTSIDE);
        x.feed(0x73746f70, 0x3b73746f, 0x703b3f3f, 0x20202020, 0x20202020);
        due.is("end(-1)", x.end(-1), ScriptLanguage.OUTSIDE);
        due.is("end(21)", x.end(21), ScriptLanguage.OUTSIDE);
        due.is("end of the least number", x.end(Integer.MIN_VALUE), ScriptLanguage.OUTSIDE);
        due.is("count(2)", x.count(2), 20);
        due.is("end(20)", x.end(20), 20);
        due.is("end(10)", x.end(10), 10);
        due.is("count(2)", x.count(2), 10);
        due.is("end(11)", x.end(11), ScriptLanguage.OUTSIDE);
        due.is("read of stop;stop;", x.read(), 2);
    }

    private static void emptied(Due due) {
        ScriptLanguage x = new ScriptLanguage();
        due.is("read of an empty tape", x.read(), 0);
        due.is("count(4): an empty script is one", x.count(4), 1);
        due.is("run of it", x.run(19, 1), 0);
        due.is("taken", x.taken(), 0);
        due.is("read", Texts.read(x, "stop;"), 1);
        due.is("count(2) behind read", x.count(2), 0);
        Texts.put(x, "?");
        due.is("run: the script does not live on the tape", x.run(0, 1), 1);
        due.is("read of ?", x.read(), -11);
        due.is("count(2) behind a read that failed", x.count(2), 0);
        due.is("count(4) behind it", x.count(4), 0);
        due.is("run behind it", x.run(0, 1), ScriptLanguage.STATE);
    }
}
