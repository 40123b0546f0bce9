import java.util.StringJoiner;

/**
 * All that can be asked of an object behind some calls, as one text. Each group of questions has an object of its own,
 * made by the same calls, so that no object is used for more than 512.
 */
final class Probe {
    /** Calls that bring a new object into a state: at most 150 of them. */
    interface Calls {
        void on(ScriptLanguage x);
    }

    private Probe() {
    }

    static ScriptLanguage made(Calls calls) {
        ScriptLanguage x = new ScriptLanguage();
        calls.on(x);
        return x;
    }

    static String all(Calls calls) {
        return told(calls) + cells(calls) + " then" + script(calls) + tape(calls);
    }

    /** What is told of the tape, the script, the latest read() and the latest run(). */
    static String told(Calls calls) {
        ScriptLanguage x = made(calls);
        StringJoiner told = new StringJoiner(" ");
        for (int what = 0; what < 5; what++) {
            told.add("count" + what + "=" + x.count(what));
        }
        told.add("fault=" + x.fault(0) + "/" + x.fault(1));
        told.add("gave=" + x.gave() + "/" + x.gaveReal());
        told.add("place=" + x.place());
        told.add("taken=" + x.taken());
        told.add("rule=" + x.rule(false));
        return told.toString();
    }

    /** What all cells and their rows hold, and which of them hold the same. */
    static String cells(Calls calls) {
        StringJoiner told = new StringJoiner(" ");
        for (int from = 0; from < 20; from += 10) {
            ScriptLanguage x = made(calls);
            int columns = x.count(0);
            for (int o = from; o < from + 10; o++) {
                for (int c = 0; c < columns; c++) {
                    int kind = x.holds(o, c);
                    if (kind != ScriptLanguage.NONE) {
                        told.add(o + "." + c + "=" + kind + ":" + x.whole(o, c) + "/" + x.real(o, c));
                    }
                }
            }
        }
        for (int o = 0; o < 20; o++) {
            told.add(rows(calls, o));
        }
        return told.toString();
    }

    private static String rows(Calls calls, int o) {
        ScriptLanguage x = made(calls);
        StringJoiner told = new StringJoiner(" ");
        int columns = x.count(0);
        for (int c = 0; c < columns; c++) {
            if (x.holds(o, c) == 2) {
                int size = x.whole(o, c);
                for (int i = 0; i < size; i++) {
                    told.add(o + "." + c + "[" + i + "]=" + x.at(o, c, i));
                }
                for (int d = 0; d < c; d++) {
                    told.add(x.same(o, c, o, d) == 1 ? c + "~" + d : "");
                }
            }
        }
        return told.toString();
    }

    /** What the script, if there is one, does with object 0. */
    private static String script(Calls calls) {
        Calls run = x -> {
            calls.on(x);
            x.run(0, 400);
        };
        return " script " + made(calls).run(0, 400) + " " + told(run) + cells(run);
    }

    /** What the tape is, by reading and running it. */
    private static String tape(Calls calls) {
        Calls run = x -> {
            calls.on(x);
            x.read();
            x.run(0, 400);
        };
        return " tape " + made(calls).read() + " " + told(run) + cells(run);
    }
}
