import java.util.ArrayList;
import java.util.Arrays;

/**
 * Small scripts over objects with columns: read() turns the tape into a flat list of instructions whose kinds fit,
 * run() works that list off over one object and takes everything back when it fails.
 */
public final class ScriptLanguage {
    public static final int UNKNOWN = -1000001, OUTSIDE = -1000002, STATE = -1000003, ROOM = -1000004, NONE = -1000009;

    private static final int TAPE_ROOM = 1500, FEED_BYTES = 20, COLUMN_ROOM = 8, OBJECT_ROOM = 20, ROW_ROOM = 20;
    private static final int LOCAL_ROOM = 8, NAME_ROOM = 8, NEST_ROOM = 20, SIGN_ROOM = 30, STEP_ROOM = 400;
    private static final int WHOLE_DIGITS = 9, POINT_DIGITS = 6;
    // 30 signs and 20 brackets hold one value each, a place with [ ] two more, and one is being worked out.
    private static final int STACK_ROOM = 64;

    private static final int MISSING = -1, WHOLE = 0, REAL = 1, ROW = 2, ANY = 3, MISFIT = 4;

    private static final int TEXT_FAULT = 1, LET_FAULT = 2, NAME_FAULT = 3, KIND_FAULT = 4, WRITE_FAULT = 5;

    private static final int ARITHMETIC = 1, INDEX = 2, NULL = 3, CAST = 4, SIZE = 5, SPENT = 6, TOO_LONG = 7;

    private static final int ENDED = 0, STOPPED = 1, GAVE_WHOLE = 2, GAVE_REAL = 3, GOING = 99;

    // A token that is one sign has its byte as its type, so the other types lie above all bytes.
    private static final int T_END = 256, T_WRONG = 257, T_NAME = 258, T_COLUMN = 259, T_WHOLE = 260, T_REAL = 261;
    private static final int W_LET = 300, W_IF = 301, W_ELSE = 302, W_REPEAT = 303, W_STOP = 304, W_GIVE = 305;
    private static final int W_SIZE = 306, W_ROW = 307, W_WHOLE = 308, W_REAL = 309, W_ASROW = 310;
    // In the order of the types from W_LET on, each filled up to NAME_ROOM characters.
    private static final String WORDS =
        "let     if      else    repeat  stop    give    size    row     whole   real    asrow   ";
    private static final int WORD_COUNT = 11;
    private static final String SIGNS = ";={}()[]+-*/%<~";

    private static final int OP_STEP = 0, OP_WHOLE = 1, OP_REAL = 2, OP_LOCAL = 3, OP_COLUMN = 4, OP_NEGATE = 5;
    private static final int OP_SIGN = 6, OP_INDEX = 7, OP_WORD = 8, OP_WORD_ANY = 9, OP_PUT_LOCAL = 10;
    private static final int OP_PUT_COLUMN = 11, OP_PUT_INDEX = 12, OP_SKIP_IF_ZERO = 13, OP_JUMP = 14;
    private static final int OP_BEGIN_ROUNDS = 15, OP_ROUND = 16, OP_STOP = 17, OP_GIVE = 18;

    private final byte[] tape = new byte[TAPE_ROOM];
    private int tapeLength;
    private final Holders columns = new Holders(COLUMN_ROOM);
    private final Cells cells = new Cells();
    private final Machine machine = new Machine();
    private Code script;
    private int faultNumber;
    private int faultPlace = NONE;
    private boolean missingIsZero;
    private int failedRuns;

    public ScriptLanguage() {
    }

    public int feed(int a, int b, int c, int d, int e) {
        if (tapeLength > TAPE_ROOM - FEED_BYTES) {
            return ROOM;
        }
        appendBytes(a);
        appendBytes(b);
        appendBytes(c);
        appendBytes(d);
        appendBytes(e);
        return tapeLength;
    }

    public int end(int n) {
        if (n < 0 || n > tapeLength) {
            return OUTSIDE;
        }
        tapeLength = n;
        return n;
    }

    public int column(int name, int kind, boolean writable) {
        if (name < 'A' || name > 'Z' || kind < WHOLE || kind > ANY) {
            return OUTSIDE;
        }
        if (columns.find(name) >= 0) {
            return STATE;
        }
        if (columns.isFull()) {
            return ROOM;
        }
        script = null;
        return columns.add(name, kind, writable);
    }

    public int rule(boolean on) {
        int before = missingIsZero ? 1 : 0;
        missingIsZero = on;
        return before;
    }

    public int cell(int object, int column, int v) {
        Slot slot = findCell(object, column);
        if (slot == null) {
            return UNKNOWN;
        }
        int kind = columns.kindOf(column);
        if (kind == ROW) {
            return STATE;
        }
        if (kind == REAL) {
            slot.setReal(v / 1000.0);
        } else {
            slot.setWhole(v);
        }
        return 1;
    }

    public int cellRow(int object, int column, int n) {
        Slot slot = findCell(object, column);
        if (slot == null) {
            return UNKNOWN;
        }
        if (n < 0 || n > ROW_ROOM) {
            return OUTSIDE;
        }
        int kind = columns.kindOf(column);
        if (kind != ROW && kind != ANY) {
            return STATE;
        }
        cells.sweepRows();
        slot.setRow(cells.freshRow(n));
        return 1;
    }

    public int cellPut(int object, int column, int i, int v) {
        Slot slot = findCell(object, column);
        if (slot == null) {
            return UNKNOWN;
        }
        Row row = slot.row;
        if (row == null) {
            return STATE;
        }
        if (!row.has(i)) {
            return OUTSIDE;
        }
        row.items[i] = v;
        return 1;
    }

    public int miss(int object, int column) {
        Slot slot = findCell(object, column);
        if (slot == null) {
            return UNKNOWN;
        }
        int before = slot.kind == MISSING ? 0 : 1;
        slot.setMissing();
        return before;
    }

    public int holds(int object, int column) {
        Slot slot = findCell(object, column);
        if (slot == null) {
            return UNKNOWN;
        }
        return slot.kind == MISSING ? NONE : slot.kind;
    }

    public int whole(int object, int column) {
        Slot slot = findCell(object, column);
        if (slot == null) {
            return UNKNOWN;
        }
        if (slot.kind == MISSING) {
            return NONE;
        }
        if (slot.kind == REAL) {
            return slot.cutReal();
        }
        Row row = slot.row;
        return row == null ? slot.whole : row.size;
    }

    public double real(int object, int column) {
        Slot slot = findCell(object, column);
        return slot == null ? 0.0 : slot.toldReal();
    }

    public int at(int object, int column, int i) {
        Slot slot = findCell(object, column);
        if (slot == null) {
            return UNKNOWN;
        }
        Row row = slot.row;
        if (row == null) {
            return STATE;
        }
        return row.has(i) ? row.items[i] : OUTSIDE;
    }

    public int same(int object, int column, int other, int another) {
        Slot one = findCell(object, column);
        Slot two = findCell(other, another);
        if (one == null || two == null) {
            return UNKNOWN;
        }
        return one.row != null && one.row == two.row ? 1 : 0;
    }

    public int read() {
        Reader reader = new Reader(tape, tapeLength, columns);
        reader.readScript();
        tapeLength = 0;
        faultNumber = reader.faultNumber;
        faultPlace = reader.faultPlace;
        if (faultNumber != 0) {
            script = null;
            return -10 - faultNumber;
        }
        script = reader.code;
        return reader.statCount;
    }

    public int fault(int what) {
        if (what == 0) {
            return faultNumber;
        }
        return what == 1 ? faultPlace : OUTSIDE;
    }

    public int run(int object, int steps) {
        if (object < 0 || object >= OBJECT_ROOM) {
            return UNKNOWN;
        }
        if (steps < 1 || steps > STEP_ROOM) {
            return OUTSIDE;
        }
        if (script == null) {
            return STATE;
        }
        int outcome = machine.work(script, cells, columns, object, steps, missingIsZero);
        if (outcome < 0) {
            failedRuns++;
        }
        return outcome;
    }

    public int gave() {
        return machine.given.kind == WHOLE ? machine.given.whole : 0;
    }

    public double gaveReal() {
        return machine.given.toldReal();
    }

    public int place() {
        return machine.failPlace;
    }

    public int taken() {
        return machine.stepsTaken;
    }

    public int count(int what) {
        switch (what) {
            case 0:
                return columns.count;
            case 1:
                return cells.countHeld();
            case 2:
                return tapeLength;
            case 3:
                return failedRuns;
            case 4:
                return script == null ? 0 : 1;
            default:
                return OUTSIDE;
        }
    }

    public int clear() {
        int before = columns.count;
        tapeLength = 0;
        columns.count = 0;
        cells.loseAll();
        script = null;
        faultNumber = 0;
        faultPlace = NONE;
        missingIsZero = false;
        failedRuns = 0;
        machine.forget();
        return before;
    }

    private void appendBytes(int number) {
        for (int shift = 24; shift >= 0; shift -= 8) {
            if (tapeLength >= 0 && tapeLength < TAPE_ROOM) {
                tape[tapeLength] = (byte) (number >>> shift);
                tapeLength++;
            }
        }
    }

    private Slot findCell(int object, int column) {
        if (object < 0 || object >= OBJECT_ROOM || column < 0 || column >= columns.count) {
            return null;
        }
        return cells.slotOf(object, column);
    }

    private static Slot[] newSlots(int n) {
        Slot[] slots = new Slot[Math.max(1, n)];
        for (int i = 0; i < slots.length; i++) {
            slots[i] = new Slot();
        }
        return slots;
    }

    private static Slot pick(Slot[] slots, int i) {
        return slots[Math.max(0, Math.min(i, slots.length - 1))];
    }

    /** A row of wholes; it always has all places, so that it can be used again for any size. */
    private static final class Row {
        final int[] items = new int[ROW_ROOM];
        int size;
        boolean held;

        boolean has(int i) {
            return i >= 0 && i < size && i < ROW_ROOM;
        }

        void makeNew(int newSize) {
            Arrays.fill(items, 0);
            size = newSize;
        }
    }

    /** The cells of all objects, and all rows: one that no cell holds is used again, lest runs fill the room. */
    private static final class Cells {
        private final Slot[] slots = newSlots(OBJECT_ROOM * COLUMN_ROOM);
        private final ArrayList<Row> rows = new ArrayList<>();
        private int nextRow;

        Slot slotOf(int object, int column) {
            return pick(slots, object * COLUMN_ROOM + column);
        }

        int countHeld() {
            int held = 0;
            for (int i = 0; i < slots.length; i++) {
                if (slots[i].kind != MISSING) {
                    held++;
                }
            }
            return held;
        }

        void loseAll() {
            for (int i = 0; i < slots.length; i++) {
                slots[i].setMissing();
            }
        }

        // Only between runs: then nothing but a cell can hold a row.
        void sweepRows() {
            for (int i = 0; i < rows.size(); i++) {
                rows.get(i).held = false;
            }
            for (int i = 0; i < slots.length; i++) {
                Row row = slots[i].row;
                if (row != null) {
                    row.held = true;
                }
            }
            nextRow = 0;
        }

        Row freshRow(int size) {
            while (nextRow < rows.size() && rows.get(nextRow).held) {
                nextRow++;
            }
            if (nextRow >= rows.size()) {
                rows.add(new Row());
                nextRow = rows.size() - 1;
            }
            Row row = rows.get(nextRow);
            nextRow++;
            row.makeNew(size);
            return row;
        }
    }

    /** One value: in a cell, a local or on the stack. A row is there just when the kind is ROW. */
    private static final class Slot {
        int kind = MISSING;
        int whole;
        double real;
        // A real that is no number has this mark, and is 0.0 beside it, as it is told: no double here is ever none.
        boolean noNumber;
        Row row;

        void setMissing() {
            kind = MISSING;
            row = null;
        }

        void setWhole(int v) {
            kind = WHOLE;
            whole = v;
            row = null;
        }

        void setReal(double v) {
            kind = REAL;
            real = v;
            noNumber = false;
            row = null;
        }

        void setNoNumber() {
            setReal(0.0);
            noNumber = true;
        }

        void setRow(Row r) {
            kind = ROW;
            row = r;
        }

        void copyFrom(Slot other) {
            kind = other.kind;
            whole = other.whole;
            real = other.real;
            noNumber = other.noNumber;
            row = other.row;
        }

        int cutReal() {
            return (int) real;
        }

        double toldReal() {
            return kind == REAL ? real : 0.0;
        }
    }

    /** What bears a name and holds a value: the columns, or the locals that are seen where the reader is. */
    private static final class Holders {
        private final long[] names;
        private final int[] kinds;
        private final boolean[] writables;
        int count;

        Holders(int room) {
            int most = Math.max(1, room);
            names = new long[most];
            kinds = new int[most];
            writables = new boolean[most];
        }

        boolean isFull() {
            return count >= names.length;
        }

        int find(long name) {
            for (int i = 0; i < count && i < names.length; i++) {
                if (names[i] == name) {
                    return i;
                }
            }
            return -1;
        }

        int add(long name, int kind, boolean writable) {
            int number = count;
            if (number >= 0 && number < names.length) {
                names[number] = name;
                kinds[number] = kind;
                writables[number] = writable;
                count = number + 1;
            }
            return number;
        }

        int kindOf(int i) {
            return i >= 0 && i < count && i < kinds.length ? kinds[i] : MISFIT;
        }

        boolean isWritable(int i) {
            return i >= 0 && i < count && i < writables.length && writables[i];
        }
    }

    /** The tokens of a text, the longest that there are; behind the end, or a byte that begins none, comes no more. */
    private static final class Tokens {
        private final byte[] text;
        private final int length;
        private final int[] types;
        private final int[] starts;
        private final long[] values;
        private final int[] decimals;
        int count;
        private int current;
        private int scannedType;
        private long scannedValue;
        private int scannedDecimals;

        Tokens(byte[] text, int length) {
            this.text = text;
            this.length = Math.max(0, Math.min(length, text.length));
            // Each token has a byte of its own, and the end is one more.
            int room = this.length + 1;
            types = new int[room];
            starts = new int[room];
            values = new long[room];
            decimals = new int[room];
        }

        void scan() {
            int from = 0;
            boolean more = true;
            for (int n = 0; n < types.length && more; n++) {
                from = skipBlanks(from);
                int width = scanToken(from);
                types[n] = scannedType;
                starts[n] = from;
                values[n] = scannedValue;
                decimals[n] = scannedDecimals;
                count = n + 1;
                from += width;
                more = scannedType != T_END && scannedType != T_WRONG;
            }
        }

        int type() {
            return isInside(current) ? types[current] : T_END;
        }

        int start() {
            return isInside(current) ? starts[current] : length;
        }

        void advance() {
            if (current < count) {
                current++;
            }
        }

        /** A whole, the byte of a column, or a name packed into one number. */
        long value() {
            return isInside(current) ? values[current] : 0L;
        }

        double realValue() {
            if (!isInside(current)) {
                return 0.0;
            }
            double number = (double) values[current];
            for (int i = 0; i < decimals[current]; i++) {
                number = number / 10.0;
            }
            return number;
        }

        private boolean isInside(int i) {
            return i >= 0 && i < count && i < types.length;
        }

        private int byteAt(int i) {
            return i >= 0 && i < length ? text[i] & 255 : -1;
        }

        private int skipBlanks(int from) {
            int i = from;
            while (i < length && (byteAt(i) == 32 || byteAt(i) == 10)) {
                i++;
            }
            return i;
        }

        private int scanToken(int from) {
            int first = byteAt(from);
            if (isDigit(first)) {
                return scanNumber(from);
            }
            if (isSmallLetter(first)) {
                return scanName(from);
            }
            scannedValue = first;
            if (first < 0) {
                scannedType = T_END;
            } else if (first >= 'A' && first <= 'Z') {
                scannedType = T_COLUMN;
            } else {
                scannedType = SIGNS.indexOf((char) first) >= 0 ? first : T_WRONG;
            }
            return 1;
        }

        private int scanNumber(int from) {
            int before = digitsFrom(from, WHOLE_DIGITS);
            int point = from + before;
            int behind = byteAt(point) == '.' ? digitsFrom(point + 1, POINT_DIGITS) : 0;
            int width = behind == 0 ? before : before + 1 + behind;
            scannedType = behind == 0 ? T_WHOLE : T_REAL;
            scannedDecimals = behind;
            scannedValue = 0;
            for (int i = from; i < from + width; i++) {
                if (i != point) {
                    scannedValue = scannedValue * 10 + (byteAt(i) - '0');
                }
            }
            return width;
        }

        // Eight bytes at most are just one long, so names need no texts of their own.
        private int scanName(int from) {
            int width = 0;
            scannedValue = 0;
            while (width < NAME_ROOM && (isSmallLetter(byteAt(from + width)) || isDigit(byteAt(from + width)))) {
                scannedValue = scannedValue << 8 | byteAt(from + width);
                width++;
            }
            scannedType = wordOrName(scannedValue);
            return width;
        }

        private int digitsFrom(int from, int most) {
            int n = 0;
            while (n < most && isDigit(byteAt(from + n))) {
                n++;
            }
            return n;
        }

        private static int wordOrName(long name) {
            for (int i = 0; i < WORD_COUNT; i++) {
                if (packWord(i) == name) {
                    return W_LET + i;
                }
            }
            return T_NAME;
        }

        private static long packWord(int number) {
            long word = 0;
            for (int i = number * NAME_ROOM; i < (number + 1) * NAME_ROOM && i < WORDS.length(); i++) {
                if (WORDS.charAt(i) != ' ') {
                    word = word << 8 | WORDS.charAt(i);
                }
            }
            return word;
        }

        private static boolean isDigit(int b) {
            return b >= '0' && b <= '9';
        }

        private static boolean isSmallLetter(int b) {
            return b >= 'a' && b <= 'z';
        }
    }

    /** A script that can be run: instructions, each with one number and the place of its token. */
    private static final class Code {
        private final int[] ops;
        private final int[] args;
        private final int[] places;
        private final double[] reals;
        int count;
        private int realCount;

        // No token asks for more instructions than it has bytes, and a real has three bytes.
        Code(int textLength) {
            int room = Math.max(0, textLength) + 1;
            ops = new int[room];
            args = new int[room];
            places = new int[room];
            reals = new double[room / 3 + 1];
        }

        int emit(int op, int arg, int place) {
            int number = count;
            if (number < ops.length) {
                ops[number] = op;
                args[number] = arg;
                places[number] = place;
                count = number + 1;
            }
            return number;
        }

        void emitReal(double v, int place) {
            if (realCount < reals.length) {
                reals[realCount] = v;
                emit(OP_REAL, realCount, place);
                realCount++;
            }
        }

        void aimHere(int jump) {
            if (jump >= 0 && jump < args.length) {
                args[jump] = count;
            }
        }

        boolean has(int i) {
            return i >= 0 && i < count && i < ops.length;
        }

        double realOf(int i) {
            return i >= 0 && i < reals.length ? reals[i] : 0.0;
        }
    }

    /**
     * Reads a text once from the left, asks its kinds and writes its code. A text fault ends the reading at once; of
     * the other faults the one at the least place is kept, and an exp that has one is a MISFIT: it fits everywhere.
     */
    private static final class Reader {
        private final Tokens tokens;
        private final Holders columns;
        private final Holders locals = new Holders(LOCAL_ROOM);
        final Code code;
        private int nest;
        private int signCount;
        int statCount;
        int faultNumber;
        int faultPlace = NONE;

        Reader(byte[] text, int length, Holders columns) {
            tokens = new Tokens(text, length);
            code = new Code(length);
            this.columns = columns;
        }

        void readScript() {
            tokens.scan();
            try {
                readStats();
                need(T_END);
            } catch (IllegalStateException brokenOff) {
                faultNumber = TEXT_FAULT;
                faultPlace = tokens.start();
            }
        }

        private void need(int type) {
            if (tokens.type() != type) {
                throw new IllegalStateException("another token is wanted");
            }
            tokens.advance();
        }

        private void open(int type) {
            if (nest >= NEST_ROOM || tokens.type() != type) {
                throw new IllegalStateException("another token is wanted, or too many are in each other");
            }
            tokens.advance();
            nest++;
        }

        private void close(int type) {
            need(type);
            nest--;
        }

        private void noteFault(int number, int place) {
            boolean earlier = faultNumber == 0 || place < faultPlace || place == faultPlace && number < faultNumber;
            if (earlier) {
                faultNumber = number;
                faultPlace = place;
            }
        }

        private void readStats() {
            for (int n = 0; n < tokens.count && beginsStat(tokens.type()); n++) {
                readStat();
            }
        }

        private static boolean beginsStat(int type) {
            switch (type) {
                case T_NAME:
                case T_COLUMN:
                case W_LET:
                case W_IF:
                case W_REPEAT:
                case W_STOP:
                case W_GIVE:
                    return true;
                default:
                    return false;
            }
        }

        private void readStat() {
            statCount++;
            signCount = 0;
            code.emit(OP_STEP, 0, tokens.start());
            switch (tokens.type()) {
                case W_LET:
                    readLet();
                    break;
                case W_IF:
                    readIf();
                    break;
                case W_REPEAT:
                    readRepeat();
                    break;
                case W_STOP:
                    code.emit(OP_STOP, 0, tokens.start());
                    tokens.advance();
                    need(';');
                    break;
                case W_GIVE:
                    readGive();
                    break;
                default:
                    readPut();
                    break;
            }
        }

        private void readLet() {
            tokens.advance();
            int start = tokens.start();
            long name = tokens.value();
            need(T_NAME);
            if (locals.find(name) >= 0 || locals.isFull()) {
                noteFault(LET_FAULT, start);
            }
            need('=');
            int kind = readExp(0);
            need(';');
            code.emit(OP_PUT_LOCAL, locals.add(name, kind, true), start);
        }

        private void readIf() {
            tokens.advance();
            readWholeExp();
            int skip = code.emit(OP_SKIP_IF_ZERO, 0, 0);
            readBlock();
            if (tokens.type() != W_ELSE) {
                code.aimHere(skip);
                return;
            }
            tokens.advance();
            int over = code.emit(OP_JUMP, 0, 0);
            code.aimHere(skip);
            readBlock();
            code.aimHere(over);
        }

        private void readRepeat() {
            int start = tokens.start();
            tokens.advance();
            readWholeExp();
            code.emit(OP_BEGIN_ROUNDS, 0, start);
            int round = code.emit(OP_ROUND, 0, start);
            readBlock();
            code.emit(OP_JUMP, round, start);
            code.aimHere(round);
        }

        private void readGive() {
            int give = tokens.start();
            tokens.advance();
            int start = tokens.start();
            int kind = readExp(0);
            if (kind == ROW || kind == ANY) {
                noteFault(KIND_FAULT, start);
            }
            need(';');
            code.emit(OP_GIVE, 0, give);
        }

        private void readWholeExp() {
            int start = tokens.start();
            if (!fits(readExp(0), WHOLE)) {
                noteFault(KIND_FAULT, start);
            }
        }

        private void readBlock() {
            int seen = locals.count;
            open('{');
            readStats();
            close('}');
            locals.count = seen;
        }

        private void readPut() {
            boolean isColumn = tokens.type() == T_COLUMN;
            Holders holders = isColumn ? columns : locals;
            int start = tokens.start();
            int number = findHolder(holders);
            int kind = holders.kindOf(number);
            if (number >= 0 && !holders.isWritable(number)) {
                noteFault(WRITE_FAULT, start);
            }
            tokens.advance();
            if (tokens.type() == '[') {
                code.emit(isColumn ? OP_COLUMN : OP_LOCAL, number, start);
                int bracket = tokens.start();
                readComing(readIndex(kind));
                code.emit(OP_PUT_INDEX, 0, bracket);
            } else {
                readComing(kind);
                code.emit(isColumn ? OP_PUT_COLUMN : OP_PUT_LOCAL, number, start);
            }
        }

        private void readComing(int placeKind) {
            int start = tokens.start();
            need('=');
            int kind = readExp(0);
            if (placeKind != ANY && placeKind != MISFIT && !fits(kind, placeKind)) {
                noteFault(KIND_FAULT, start);
            }
            need(';');
        }

        private int readIndex(int holderKind) {
            int start = tokens.start();
            open('[');
            int kind = readExp(0);
            close(']');
            if (!fits(holderKind, ROW) || !fits(kind, WHOLE)) {
                noteFault(KIND_FAULT, start);
                return MISFIT;
            }
            return holderKind == MISFIT || kind == MISFIT ? MISFIT : WHOLE;
        }

        private int findHolder(Holders holders) {
            int number = holders.find(tokens.value());
            if (number < 0) {
                noteFault(NAME_FAULT, tokens.start());
            }
            return number;
        }

        // Levels of exps: 0 compares once, 1 sums, 2 parts, 3 ones.
        private int readExp(int level) {
            if (level >= 3) {
                return readOne();
            }
            int kind = readExp(level + 1);
            int most = level == 0 ? 1 : SIGN_ROOM + 1;
            for (int n = 0; n < most && levelOf(tokens.type()) == level; n++) {
                if (signCount >= SIGN_ROOM) {
                    throw new IllegalStateException("too many signs in a stat");
                }
                signCount++;
                int sign = tokens.type();
                int start = tokens.start();
                tokens.advance();
                kind = kindOfSign(level, kind, readExp(level + 1), start);
                code.emit(OP_SIGN, sign, start);
            }
            return kind;
        }

        private static int levelOf(int type) {
            switch (type) {
                case '<':
                case '~':
                    return 0;
                case '+':
                case '-':
                    return 1;
                case '*':
                case '/':
                case '%':
                    return 2;
                default:
                    return -1;
            }
        }

        private int kindOfSign(int level, int left, int right, int start) {
            boolean wholes = fits(left, WHOLE) && fits(right, WHOLE);
            boolean reals = fits(left, REAL) && fits(right, REAL);
            if (!wholes && !reals) {
                noteFault(KIND_FAULT, start);
                return MISFIT;
            }
            if (left == MISFIT || right == MISFIT) {
                return MISFIT;
            }
            return level == 0 ? WHOLE : left;
        }

        private int readOne() {
            int start = tokens.start();
            switch (tokens.type()) {
                case T_WHOLE:
                    code.emit(OP_WHOLE, (int) tokens.value(), start);
                    tokens.advance();
                    return WHOLE;
                case T_REAL:
                    code.emitReal(tokens.realValue(), start);
                    tokens.advance();
                    return REAL;
                case T_NAME:
                case T_COLUMN:
                    return readHolder();
                case '-':
                    return readNegative();
                case '(':
                    return readInParens();
                case W_SIZE:
                case W_ROW:
                case W_WHOLE:
                case W_REAL:
                case W_ASROW:
                    return readWord();
                default:
                    throw new IllegalStateException("no exp begins with this token");
            }
        }

        private int readHolder() {
            boolean isColumn = tokens.type() == T_COLUMN;
            Holders holders = isColumn ? columns : locals;
            int number = findHolder(holders);
            int kind = holders.kindOf(number);
            code.emit(isColumn ? OP_COLUMN : OP_LOCAL, number, tokens.start());
            tokens.advance();
            if (tokens.type() != '[') {
                return kind;
            }
            int bracket = tokens.start();
            int itemKind = readIndex(kind);
            code.emit(OP_INDEX, 0, bracket);
            return itemKind;
        }

        private int readNegative() {
            int start = tokens.start();
            open('-');
            int kind = readOne();
            nest--;
            if (kind == ROW || kind == ANY) {
                noteFault(KIND_FAULT, start);
                kind = MISFIT;
            }
            code.emit(OP_NEGATE, 0, start);
            return kind;
        }

        private int readInParens() {
            open('(');
            int kind = readExp(0);
            close(')');
            return kind;
        }

        private int readWord() {
            int word = tokens.type();
            int start = tokens.start();
            tokens.advance();
            int kind = readInParens();
            code.emit(kind == ANY ? OP_WORD_ANY : OP_WORD, word, start);
            if (kind == MISFIT) {
                return MISFIT;
            }
            if (!wordTakes(word, kind)) {
                noteFault(KIND_FAULT, start);
                return MISFIT;
            }
            return kindOfWord(word);
        }

        private static boolean wordTakes(int word, int kind) {
            switch (word) {
                case W_SIZE:
                    return kind == ROW;
                case W_ROW:
                    return kind == WHOLE;
                case W_ASROW:
                    return kind == ROW || kind == ANY;
                default:
                    return kind != ROW;
            }
        }

        private static int kindOfWord(int word) {
            switch (word) {
                case W_SIZE:
                case W_WHOLE:
                    return WHOLE;
                case W_REAL:
                    return REAL;
                default:
                    return ROW;
            }
        }

        private static boolean fits(int kind, int wanted) {
            return kind == wanted || kind == MISFIT;
        }
    }

    /** What a run has changed, so that it can be taken back. */
    private static final class Journal {
        private final Slot[] cellsBefore = newSlots(COLUMN_ROOM);
        // Each change of a row takes a step.
        private final Row[] rows = new Row[STEP_ROOM];
        private final int[] places = new int[STEP_ROOM];
        private final int[] itemsBefore = new int[STEP_ROOM];
        private int count;

        void begin(Cells cells, int object) {
            count = 0;
            for (int i = 0; i < COLUMN_ROOM; i++) {
                cellsBefore[i].copyFrom(cells.slotOf(object, i));
            }
        }

        void keepItem(Row row, int i) {
            if (count < STEP_ROOM && row.has(i)) {
                rows[count] = row;
                places[count] = i;
                itemsBefore[count] = row.items[i];
                count++;
            }
        }

        // From the latest change back: the same item may have been changed twice.
        void takeBack(Cells cells, int object) {
            for (int i = Math.min(count, STEP_ROOM) - 1; i >= 0; i--) {
                Row row = rows[i];
                if (row != null && row.has(places[i])) {
                    row.items[places[i]] = itemsBefore[i];
                }
            }
            for (int i = 0; i < COLUMN_ROOM; i++) {
                cells.slotOf(object, i).copyFrom(cellsBefore[i]);
            }
        }
    }

    /** Works code off over one object, with a stack of values. The kinds fit by then: only what can FAIL is asked. */
    private static final class Machine {
        private final Journal journal = new Journal();
        private final Slot[] stack = newSlots(STACK_ROOM);
        private final Slot[] locals = newSlots(LOCAL_ROOM);
        private final int[] roundsLeft = new int[NEST_ROOM];
        private Code code;
        private Cells cells;
        private Holders columns;
        private int object;
        private int stepsAllowed;
        private boolean missingIsZero;
        private int next;
        private int top;
        private int repeats;
        private int outcome;
        int stepsTaken;
        int failPlace = NONE;
        final Slot given = new Slot();

        void forget() {
            stepsTaken = 0;
            failPlace = NONE;
            given.setMissing();
        }

        int work(Code script, Cells allCells, Holders allColumns, int ofObject, int steps, boolean zeroForMissing) {
            code = script;
            cells = allCells;
            columns = allColumns;
            object = ofObject;
            stepsAllowed = steps;
            missingIsZero = zeroForMissing;
            begin();
            // Each stat and each round takes a step, so 400 steps end long before this bound.
            for (int n = 0; n < 1000000 && outcome == GOING; n++) {
                int i = next;
                next = i + 1;
                if (!code.has(i)) {
                    outcome = ENDED;
                } else if (code.ops[i] >= OP_PUT_LOCAL) {
                    doOfStat(code.ops[i], code.args[i], code.places[i]);
                } else {
                    doOfExp(code.ops[i], code.args[i], code.places[i]);
                }
            }
            if (outcome < 0) {
                journal.takeBack(cells, object);
            }
            return outcome;
        }

        private void begin() {
            forget();
            next = 0;
            top = 0;
            repeats = 0;
            outcome = GOING;
            cells.sweepRows();
            journal.begin(cells, object);
        }

        private void doOfExp(int op, int arg, int place) {
            switch (op) {
                case OP_STEP:
                    takeStep(place);
                    break;
                case OP_WHOLE:
                    push().setWhole(arg);
                    break;
                case OP_REAL:
                    push().setReal(code.realOf(arg));
                    break;
                case OP_LOCAL:
                    push().copyFrom(pick(locals, arg));
                    break;
                case OP_COLUMN:
                    pushColumn(arg, place);
                    break;
                case OP_NEGATE:
                    doNegate(place);
                    break;
                case OP_SIGN:
                    doSign(arg, place);
                    break;
                case OP_INDEX:
                    doIndex(place);
                    break;
                case OP_WORD:
                    doWord(arg, place);
                    break;
                default:
                    doWordOfAny(arg, place);
                    break;
            }
        }

        private void doOfStat(int op, int arg, int place) {
            switch (op) {
                case OP_PUT_LOCAL:
                    pick(locals, arg).copyFrom(pop());
                    break;
                case OP_PUT_COLUMN:
                    cells.slotOf(object, arg).copyFrom(pop());
                    break;
                case OP_PUT_INDEX:
                    doPutIndex(place);
                    break;
                case OP_SKIP_IF_ZERO:
                    if (pop().whole == 0) {
                        next = arg;
                    }
                    break;
                case OP_JUMP:
                    next = arg;
                    break;
                case OP_BEGIN_ROUNDS:
                    beginRounds(pop().whole);
                    break;
                case OP_ROUND:
                    doRound(arg, place);
                    break;
                case OP_STOP:
                    outcome = STOPPED;
                    break;
                default:
                    given.copyFrom(pop());
                    outcome = given.kind == WHOLE ? GAVE_WHOLE : GAVE_REAL;
                    break;
            }
        }

        private void fail(int what, int place) {
            outcome = -1 - what;
            failPlace = place;
        }

        private boolean takeStep(int place) {
            if (stepsTaken >= stepsAllowed) {
                fail(SPENT, place);
                return false;
            }
            stepsTaken++;
            return true;
        }

        private Slot push() {
            Slot slot = pick(stack, top);
            top = Math.min(top + 1, STACK_ROOM);
            return slot;
        }

        private Slot pop() {
            top = Math.max(0, top - 1);
            return pick(stack, top);
        }

        private Slot topSlot() {
            return pick(stack, top - 1);
        }

        private void pushColumn(int column, int place) {
            Slot held = cells.slotOf(object, column);
            int kind = columns.kindOf(column);
            if (held.kind != MISSING || kind == ANY) {
                push().copyFrom(held);
            } else if (missingIsZero && kind == WHOLE) {
                push().setWhole(0);
            } else if (missingIsZero && kind == REAL) {
                push().setReal(0.0);
            } else {
                fail(NULL, place);
            }
        }

        private void doNegate(int place) {
            if (!takeStep(place)) {
                return;
            }
            Slot slot = topSlot();
            if (slot.kind == WHOLE) {
                slot.setWhole(-slot.whole);
            } else if (!slot.noNumber) {
                slot.setReal(-slot.real);
            }
        }

        private void doSign(int sign, int place) {
            if (!takeStep(place)) {
                return;
            }
            Slot right = pop();
            Slot left = topSlot();
            if (left.kind == REAL) {
                Reals.workOut(sign, left, right);
            } else if ((sign == '/' || sign == '%') && right.whole == 0) {
                fail(ARITHMETIC, place);
            } else {
                left.setWhole(signOfWholes(sign, left.whole, right.whole));
            }
        }

        private static int signOfWholes(int sign, int x, int y) {
            switch (sign) {
                case '+':
                    return x + y;
                case '-':
                    return x - y;
                case '*':
                    return x * y;
                case '/':
                    return y == 0 ? 0 : x / y;
                case '%':
                    return y == 0 ? 0 : x % y;
                case '<':
                    return x < y ? 1 : 0;
                default:
                    return x == y ? 1 : 0;
            }
        }

        private void doIndex(int place) {
            if (!takeStep(place)) {
                return;
            }
            int i = pop().whole;
            Slot slot = topSlot();
            Row row = slot.row;
            if (row == null || !row.has(i)) {
                fail(INDEX, place);
            } else {
                slot.setWhole(row.items[i]);
            }
        }

        private void doPutIndex(int place) {
            if (!takeStep(place)) {
                return;
            }
            int v = pop().whole;
            int i = pop().whole;
            Row row = pop().row;
            if (row == null || !row.has(i)) {
                fail(INDEX, place);
            } else {
                journal.keepItem(row, i);
                row.items[i] = v;
            }
        }

        private void doWord(int word, int place) {
            if (!takeStep(place)) {
                return;
            }
            Slot slot = topSlot();
            switch (word) {
                case W_SIZE:
                    Row row = slot.row;
                    slot.setWhole(row == null ? 0 : row.size);
                    break;
                case W_ROW:
                    makeRow(slot, place);
                    break;
                case W_WHOLE:
                    slot.setWhole(slot.kind == REAL ? slot.cutReal() : slot.whole);
                    break;
                case W_REAL:
                    if (slot.kind == WHOLE) {
                        slot.setReal((double) slot.whole);
                    }
                    break;
                default:
                    break;
            }
        }

        private void makeRow(Slot slot, int place) {
            int size = slot.whole;
            if (size < 0) {
                fail(SIZE, place);
            } else if (size > ROW_ROOM) {
                fail(TOO_LONG, place);
            } else {
                slot.setRow(cells.freshRow(size));
            }
        }

        private void doWordOfAny(int word, int place) {
            if (!takeStep(place)) {
                return;
            }
            int kind = topSlot().kind;
            int wanted = word == W_WHOLE ? WHOLE : word == W_REAL ? REAL : ROW;
            if (kind == MISSING) {
                fail(NULL, place);
            } else if (kind != wanted) {
                fail(CAST, place);
            }
        }

        private void beginRounds(int rounds) {
            if (repeats >= 0 && repeats < NEST_ROOM) {
                roundsLeft[repeats] = rounds;
                repeats++;
            }
        }

        private void doRound(int behind, int place) {
            int inner = repeats - 1;
            if (inner < 0 || inner >= NEST_ROOM || roundsLeft[inner] <= 0) {
                repeats = Math.max(0, inner);
                next = behind;
            } else if (takeStep(place)) {
                roundsLeft[inner]--;
            }
        }
    }

    /** Signs between two reals as Java has them, but never by way of a double that is no number. */
    private static final class Reals {
        static void workOut(int sign, Slot left, Slot right) {
            boolean numbers = !left.noNumber && !right.noNumber;
            double x = left.real;
            double y = right.real;
            if (sign == '<') {
                left.setWhole(numbers && x < y ? 1 : 0);
            } else if (sign == '~') {
                left.setWhole(numbers && x == y ? 1 : 0);
            } else if (!numbers || givesNoNumber(sign, x, y)) {
                left.setNoNumber();
            } else if (sign == '+') {
                left.setReal(x + y);
            } else if (sign == '-') {
                left.setReal(x - y);
            } else if (sign == '*') {
                left.setReal(x * y);
            } else if (sign == '/') {
                left.setReal(x / y);
            } else {
                left.setReal(remainder(x, y));
            }
        }

        private static boolean givesNoNumber(int sign, double x, double y) {
            switch (sign) {
                case '+':
                    return isEndless(x) && isEndless(y) && (x > 0.0) != (y > 0.0);
                case '-':
                    return isEndless(x) && isEndless(y) && (x > 0.0) == (y > 0.0);
                case '*':
                    return isEndless(x) && y == 0.0 || x == 0.0 && isEndless(y);
                case '/':
                    return isEndless(x) && isEndless(y) || x == 0.0 && y == 0.0;
                default:
                    return isEndless(x) || y == 0.0;
            }
        }

        private static boolean isEndless(double x) {
            return x > 1.7976931348623157E308 || x < -1.7976931348623157E308;
        }

        // Java's own % is not at hand. Each difference here is of two numbers of which the greater is below twice the
        // lesser, and each other number is the divisor times a power of two: so nothing is ever rounded.
        private static double remainder(double x, double y) {
            double rest = x < 0.0 ? -x : x;
            double divisor = y < 0.0 ? -y : y;
            if (rest < divisor) {
                return x;
            }
            double times = divisor;
            int doublings = 0;
            // From the least double to the greatest there are fewer than 2100 doublings.
            while (doublings < 2200 && times <= rest - times) {
                times = times + times;
                doublings++;
            }
            for (int i = doublings; i >= 0; i--) {
                if (rest >= times) {
                    rest = rest - times;
                }
                times = times / 2.0;
            }
            return x < 0.0 ? -rest : rest;
        }
    }
}
