import java.util.ArrayList;
import java.util.List;

/**
 * "then nothing changes": each call that is refused, in many states, and each call that only asks. All that can be asked of
 * an object is the same ahead of it and behind it.
 */
public final class RefusedTest {
    private static final int[] NUMBERS = {Stage.LEAST, -1, 0, 2, 3, 5, 7, 8, 19, 20, 21, 65, 91, 401, Stage.GREATEST};
    private final Due due = new Due("RefusedTest");
    private int refused;

    private interface Call {
        int on(ScriptLanguage x);
    }

    private RefusedTest() {
    }

    public static void main(String[] args) {
        RefusedTest test = new RefusedTest();
        List<Probe.Calls> states = test.states();
        for (int i = 0; i < states.size(); i++) {
            test.changes(i, states.get(i));
            test.questions(i, states.get(i));
        }
        test.due.is("refused calls are many: " + test.refused, test.refused > 2000 ? 1 : 0, 1);
        test.due.close();
    }

    private List<Probe.Calls> states() {
        List<Probe.Calls> states = new ArrayList<>();
        states.add(x -> { });
        states.add(x -> Texts.put(x, "give 5+6;"));
        states.add(x -> {
            some(x);
            Texts.put(x, "A=A+1;give A;");
        });
        states.add(x -> {
            some(x);
            Texts.read(x, "C[1]=C[1]+1;A=A/2;D=C;give A;");
            Texts.put(x, "give B;");
            x.run(0, 99);
        });
        states.add(x -> {
            some(x);
            x.rule(true);
            Texts.read(x, "give real(A)/B;");
            x.run(0, 99);
            Texts.read(x, "A=A+1;E=1/(A-6);");
            x.run(0, 99);
            x.run(0, 99);
        });
        states.add(x -> {
            some(x);
            Texts.read(x, "stop;");
            Texts.read(x, "A=1; x=2;");
        });
        states.add(x -> {
            full(x);
            Texts.read(x, "A=A+1;D=C;");
            x.run(0, 99);
        });
        states.add(x -> {
            full(x);
            for (int i = 0; i < 75; i++) {
                x.feed(0x73746f70, 0x3b202020, 0x20202020, 0x20202020, 0x20202020);
            }
        });
        return states;
    }

    /** Columns 0 to 4. */
    private static void some(ScriptLanguage x) {
        for (int i = 0; i < 5; i++) {
            x.column('A' + i, i % 4, true);
        }
        fill(x);
    }

    private static void full(ScriptLanguage x) {
        for (int i = 0; i < 8; i++) {
            x.column('A' + i, i % 4, i < 4);
        }
        fill(x);
    }

    private static void fill(ScriptLanguage x) {
        x.cell(0, 0, 4);
        x.cell(0, 1, 2500);
        x.cellRow(0, 2, 3);
        x.cellPut(0, 2, 1, 7);
        x.cellRow(19, 3, 20);
        x.cellPut(19, 3, 19, -1);
        x.cell(7, 3, 70);
    }

    private void changes(int state, Probe.Calls calls) {
        due.sentence("UNKNOWN, OUTSIDE, STATE, ROOM; then nothing changes");
        String before = Probe.all(calls);
        unlessDone(state, calls, before, "feed", x -> x.feed(-1, 0x3b3b3b3b, 0, 1, 2));
        unlessDone(state, calls, before, "run", x -> x.run(0, 1));
        for (int a : NUMBERS) {
            unlessDone(state, calls, before, "end " + a, x -> x.end(a));
            unlessDone(state, calls, before, "column of kind " + a, x -> x.column('A', a, false));
            unlessDone(state, calls, before, "column of a new name, of kind " + a, x -> x.column('Q', a, false));
            unlessDone(state, calls, before, "column " + a, x -> x.column(a, 3, false));
            unlessDone(state, calls, before, "cellRow of " + a, x -> x.cellRow(0, 2, a));
            unlessDone(state, calls, before, "cellRow of wholes of " + a, x -> x.cellRow(0, 0, a));
            unlessDone(state, calls, before, "cellPut at " + a, x -> x.cellPut(0, 2, a, 99));
            unlessDone(state, calls, before, "cellPut in an any at " + a, x -> x.cellPut(7, 3, a, 99));
            unlessDone(state, calls, before, "run with " + a, x -> x.run(0, a));
            unlessDone(state, calls, before, "run of " + a, x -> x.run(a, 400));
            for (int b : NUMBERS) {
                unlessDone(state, calls, before, "cell " + a + " " + b, x -> x.cell(a, b, 99));
                unlessDone(state, calls, before, "cellRow " + a + " " + b, x -> x.cellRow(a, b, 5));
                unlessDone(state, calls, before, "cellPut " + a + " " + b, x -> x.cellPut(a, b, 0, 99));
                unlessDone(state, calls, before, "miss " + a + " " + b, x -> x.miss(a, b));
            }
        }
    }

    private void unlessDone(int state, Probe.Calls calls, String before, String name, Call call) {
        if (!refuses(call.on(Probe.made(calls)))) {
            return;
        }
        refused++;
        Probe.Calls behind = x -> {
            calls.on(x);
            call.on(x);
            call.on(x);
        };
        due.isText("all that can be asked behind " + name + " in state " + state, Probe.all(behind), before);
    }

    private static boolean refuses(int answer) {
        return answer == Stage.UNKNOWN || answer == Stage.OUTSIDE || answer == Stage.STATE || answer == Stage.ROOM;
    }

    /** Calls whose promise tells of no change: those that only ask. */
    private void questions(int state, Probe.Calls calls) {
        String before = Probe.all(calls);
        Probe.Calls behind = x -> {
            calls.on(x);
            for (int a : NUMBERS) {
                x.holds(a, 2);
                x.whole(0, a);
                x.real(a, 1);
                x.at(0, 2, a);
                x.same(0, 2, a, 3);
                x.fault(a);
                x.count(a);
            }
            x.gave();
            x.gaveReal();
            x.place();
            x.taken();
        };
        due.sentence("holds, whole, real, at, same, fault, gave, gaveReal, place, taken, count (which only ask)");
        due.isText("all that can be asked behind them in state " + state, Probe.all(behind), before);
    }
}
