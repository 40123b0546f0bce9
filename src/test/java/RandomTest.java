import java.util.Random;

/** Random runs of up to 512 calls, each answer held against the model. */
public final class RandomTest {
    private final Due due;
    private final long seed;
    private final Random random;
    private final ScriptMaker maker;
    private final ScriptLanguage x = new ScriptLanguage();
    private final Model m = new Model();
    private int calls;
    private static final long[] outcomes = new long[16];
    private static final long[] faults = new long[6];

    private RandomTest(Due due, long seed) {
        this.due = due;
        this.seed = seed;
        random = new Random(seed);
        maker = new ScriptMaker(random);
    }

    public static void main(String[] args) {
        int from = args.length > 0 ? Integer.parseInt(args[0]) : 0;
        int runs = args.length > 1 ? Integer.parseInt(args[1]) : 4000;
        Due due = new Due("RandomTest");
        for (int seed = from; seed < from + runs && due.allRight(); seed++) {
            new RandomTest(due, seed).all();
        }
        System.out.println("faults " + java.util.Arrays.toString(faults) + ", outcomes -8 to 3 "
            + java.util.Arrays.toString(java.util.Arrays.copyOf(outcomes, 12)));
        due.close();
    }

    private void is(String call, long got, long want) {
        calls++;
        due.is("seed " + seed + " call " + calls + " " + call, got, want);
    }

    private void isReal(String call, double got, double want) {
        calls++;
        due.isReal("seed " + seed + " call " + calls + " " + call, got, want);
    }

    private void all() {
        addColumns();
        while (calls < 430 && due.allRight()) {
            switch (random.nextInt(10)) {
                case 0:
                    if (random.nextInt(30) == 0) {
                        is("clear", x.clear(), m.clear());
                        maker.forgetColumns();
                        addColumns();
                    }
                    break;
                case 1:
                    oddCall();
                    break;
                case 2:
                case 3:
                case 4:
                    newScript();
                    break;
                case 5:
                    fillCell();
                    break;
                default:
                    runOnce();
                    break;
            }
        }
        lookAtAll();
    }

    private void addColumns() {
        int n = 3 + random.nextInt(6);
        for (int i = 0; i < n; i++) {
            int kind = i < 4 ? i : random.nextInt(4);
            boolean writable = random.nextInt(8) != 0;
            char name = (char) ('A' + (i < 4 ? i : 4 + random.nextInt(20)));
            int number = m.column(name, kind, writable);
            is("column", x.column(name, kind, writable), number);
            if (number >= 0) {
                maker.addColumn(name, kind);
            }
        }
        for (int i = 0; i < 24; i++) {
            if (random.nextInt(8) != 0) {
                fill(i / 8, i % 8);
            }
        }
    }

    private void fill(int o, int c) {
        int v = random.nextInt(3) == 0 ? random.nextInt() : random.nextInt(9);
        is("cell", x.cell(o, c, v), m.cell(o, c, v));
        if (m.holds(o, c) == Model.NONE || random.nextInt(3) == 0) {
            int n = random.nextInt(8);
            is("cellRow", x.cellRow(o, c, n), m.cellRow(o, c, n));
        }
    }

    private int object() {
        return random.nextInt(12) == 0 ? random.nextInt(24) - 2 : random.nextInt(3);
    }

    private int column() {
        return random.nextInt(12) == 0 ? random.nextInt(12) - 2 : random.nextInt(5);
    }

    private void fillCell() {
        int o = object();
        int c = column();
        int v = random.nextInt(3) == 0 ? random.nextInt() : random.nextInt(9);
        int n = random.nextInt(10) == 0 ? random.nextInt(26) - 2 : random.nextInt(7);
        switch (random.nextInt(4)) {
            case 0:
                is("cell", x.cell(o, c, v), m.cell(o, c, v));
                break;
            case 1:
                is("cellRow", x.cellRow(o, c, n), m.cellRow(o, c, n));
                break;
            case 2:
                is("cellPut", x.cellPut(o, c, n, v), m.cellPut(o, c, n, v));
                break;
            default:
                is("cell", x.cell(o, c, v), m.cell(o, c, v));
                is("cellRow", x.cellRow(o, c, n), m.cellRow(o, c, n));
                break;
        }
    }

    private void oddCall() {
        int o = object();
        int c = column();
        switch (random.nextInt(9)) {
            case 0:
                is("miss", x.miss(o, c), m.miss(o, c));
                break;
            case 1:
                boolean on = random.nextBoolean();
                is("rule", x.rule(on), m.rule(on));
                break;
            case 2:
                int name = 60 + random.nextInt(35);
                int kind = random.nextInt(6) - 1;
                if (random.nextInt(5) == 0) {
                    int number = m.column(name, kind, true);
                    is("column", x.column(name, kind, true), number);
                    if (number >= 0) {
                        maker.addColumn((char) name, kind);
                    }
                }
                break;
            case 3:
                int n = random.nextInt(60) - 5;
                is("end", x.end(n), m.end(n));
                break;
            case 4:
                int f = random.nextInt();
                is("feed", x.feed(f, 2, 3, 4, f), m.feed(f, 2, 3, 4, f));
                break;
            case 5:
                int steps = random.nextInt(3) - 1;
                is("run", x.run(o, steps), m.run(o, steps));
                break;
            case 6:
                int what = random.nextInt(8) - 2;
                is("count", x.count(what), m.count(what));
                is("fault", x.fault(what), m.fault(what));
                break;
            default:
                int p = object();
                int d = column();
                is("same", x.same(o, c, p, d), m.same(o, c, p, d));
                break;
        }
    }

    private void newScript() {
        String text = random.nextInt(12) == 0 ? maker.limitScript() : maker.script();
        is("end(0)", x.end(0), m.end(0));
        byte[] bytes = Texts.bytes(text);
        for (int i = 0; i < bytes.length; i += 20) {
            int a = Texts.number(bytes, i);
            int b = Texts.number(bytes, i + 4);
            int c = Texts.number(bytes, i + 8);
            int d = Texts.number(bytes, i + 12);
            int e = Texts.number(bytes, i + 16);
            is("feed", x.feed(a, b, c, d, e), m.feed(a, b, c, d, e));
        }
        is("end", x.end(bytes.length), m.end(bytes.length));
        is("read of " + text, x.read(), m.read());
        is("fault(0) of " + text, x.fault(0), m.fault(0));
        is("fault(1) of " + text, x.fault(1), m.fault(1));
        faults[m.fault(0)]++;
        runOnce();
        runOnce();
    }

    private void runOnce() {
        int o = object();
        int steps = random.nextInt(3) == 0 ? 1 + random.nextInt(30) : 400;
        int outcome = m.run(o, steps);
        is("run", x.run(o, steps), outcome);
        if (outcome >= -8) {
            outcomes[outcome + 8]++;
        }
        is("gave", x.gave(), m.gave());
        isReal("gaveReal", x.gaveReal(), m.gaveReal());
        is("place", x.place(), m.place());
        is("taken", x.taken(), m.taken());
        is("count(3)", x.count(3), m.count(3));
        if (random.nextInt(4) == 0) {
            look(o);
        }
    }

    private void look(int o) {
        for (int c = 0; c < 5; c++) {
            is("holds", x.holds(o, c), m.holds(o, c));
            is("whole", x.whole(o, c), m.whole(o, c));
            isReal("real", x.real(o, c), m.real(o, c));
            int i = random.nextInt(8) - 1;
            is("at", x.at(o, c, i), m.at(o, c, i));
        }
    }

    /** Beyond the 512 calls that are promised, but all of the state is worth a look. */
    private void lookAtAll() {
        for (int o = 0; o < 20; o++) {
            for (int c = 0; c < 8; c++) {
                is("holds", x.holds(o, c), m.holds(o, c));
                is("whole", x.whole(o, c), m.whole(o, c));
                isReal("real", x.real(o, c), m.real(o, c));
                for (int i = 0; i < 20; i++) {
                    is("at", x.at(o, c, i), m.at(o, c, i));
                }
                for (int p = 0; p < 3; p++) {
                    is("same", x.same(o, c, p, 2), m.same(o, c, p, 2));
                    is("same", x.same(o, c, p, 3), m.same(o, c, p, 3));
                }
            }
        }
        for (int what = -1; what < 6; what++) {
            is("count", x.count(what), m.count(what));
        }
    }
}
