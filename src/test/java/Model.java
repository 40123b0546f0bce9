import java.util.ArrayList;
import java.util.IdentityHashMap;
import java.util.LinkedHashMap;
import java.util.List;
import java.util.Map;
import java.util.TreeMap;
import java.util.regex.Matcher;
import java.util.regex.Pattern;

/**
 * The document once more, in another way: a tree that is walked, Java's own doubles and %, copies instead of a journal.
 * The random test holds ScriptLanguage against it.
 */
final class Model {
    static final int UNKNOWN = -1000001, OUTSIDE = -1000002, STATE = -1000003, ROOM = -1000004, NONE = -1000009;

    private final StringBuilder tape = new StringBuilder();
    private final List<Character> names = new ArrayList<>();
    private final List<Integer> kinds = new ArrayList<>();
    private final List<Boolean> writables = new ArrayList<>();
    private final Object[][] cells = new Object[20][8];
    private boolean rule;
    private List<Stat> script;
    private int faultNumber;
    private int faultPlace = NONE;
    private Object given;
    private int failPlace = NONE;
    private int taken;
    private int failedRuns;

    int feed(int... numbers) {
        if (tape.length() + 20 > 1500) {
            return ROOM;
        }
        for (int number : numbers) {
            for (int shift = 24; shift >= 0; shift -= 8) {
                tape.append((char) (number >>> shift & 255));
            }
        }
        return tape.length();
    }

    int end(int n) {
        if (n < 0 || n > tape.length()) {
            return OUTSIDE;
        }
        tape.setLength(n);
        return n;
    }

    int column(int name, int kind, boolean writable) {
        if (name < 65 || name > 90 || kind < 0 || kind > 3) {
            return OUTSIDE;
        }
        if (names.contains((char) name)) {
            return STATE;
        }
        if (names.size() == 8) {
            return ROOM;
        }
        names.add((char) name);
        kinds.add(kind);
        writables.add(writable);
        script = null;
        return names.size() - 1;
    }

    int rule(boolean on) {
        boolean was = rule;
        rule = on;
        return was ? 1 : 0;
    }

    private boolean there(int object, int column) {
        return object >= 0 && object < 20 && column >= 0 && column < names.size();
    }

    int cell(int object, int column, int v) {
        if (!there(object, column)) {
            return UNKNOWN;
        }
        if (kinds.get(column) == 2) {
            return STATE;
        }
        cells[object][column] = kinds.get(column) == 1 ? (Object) (v / 1000.0) : (Object) v;
        return 1;
    }

    int cellRow(int object, int column, int n) {
        if (!there(object, column)) {
            return UNKNOWN;
        }
        if (n < 0 || n > 20) {
            return OUTSIDE;
        }
        if (kinds.get(column) < 2) {
            return STATE;
        }
        cells[object][column] = new int[n];
        return 1;
    }

    int cellPut(int object, int column, int i, int v) {
        int now = at(object, column, i);
        if (there(object, column) && cells[object][column] instanceof int[] row && i >= 0 && i < row.length) {
            row[i] = v;
            return 1;
        }
        return now;
    }

    int miss(int object, int column) {
        if (!there(object, column)) {
            return UNKNOWN;
        }
        int was = cells[object][column] == null ? 0 : 1;
        cells[object][column] = null;
        return was;
    }

    int holds(int object, int column) {
        if (!there(object, column)) {
            return UNKNOWN;
        }
        Object held = cells[object][column];
        return held == null ? NONE : held instanceof Integer ? 0 : held instanceof Double ? 1 : 2;
    }

    int whole(int object, int column) {
        if (!there(object, column)) {
            return UNKNOWN;
        }
        Object held = cells[object][column];
        if (held instanceof Integer v) {
            return v;
        }
        if (held instanceof Double v) {
            return (int) (double) v;
        }
        return held instanceof int[] row ? row.length : NONE;
    }

    private static double told(Object held) {
        return held instanceof Double v && !v.isNaN() ? v : 0.0;
    }

    double real(int object, int column) {
        return there(object, column) ? told(cells[object][column]) : 0.0;
    }

    int at(int object, int column, int i) {
        if (!there(object, column)) {
            return UNKNOWN;
        }
        if (!(cells[object][column] instanceof int[] row)) {
            return STATE;
        }
        return i < 0 || i >= row.length ? OUTSIDE : row[i];
    }

    int same(int object, int column, int other, int another) {
        if (!there(object, column) || !there(other, another)) {
            return UNKNOWN;
        }
        Object held = cells[object][column];
        return held instanceof int[] && held == cells[other][another] ? 1 : 0;
    }

    int fault(int what) {
        return what == 0 ? faultNumber : what == 1 ? faultPlace : OUTSIDE;
    }

    int gave() {
        return given instanceof Integer v ? v : 0;
    }

    double gaveReal() {
        return told(given);
    }

    int place() {
        return failPlace;
    }

    int taken() {
        return taken;
    }

    int count(int what) {
        int held = 0;
        for (Object[] row : cells) {
            for (Object cell : row) {
                held += cell == null ? 0 : 1;
            }
        }
        int[] counts = {names.size(), held, tape.length(), failedRuns, script == null ? 0 : 1};
        return what < 0 || what > 4 ? OUTSIDE : counts[what];
    }

    int clear() {
        int was = names.size();
        tape.setLength(0);
        names.clear();
        kinds.clear();
        writables.clear();
        for (Object[] row : cells) {
            java.util.Arrays.fill(row, null);
        }
        rule = false;
        script = null;
        faultNumber = 0;
        faultPlace = NONE;
        given = null;
        failPlace = NONE;
        taken = 0;
        failedRuns = 0;
        return was;
    }

    // ---- reading ----

    private record Token(String what, String text, int start) {
    }

    private static final class Exp {
        String op;
        String text;
        int start;
        int first;
        List<Exp> parts = new ArrayList<>();
        int kind;
    }

    private static final class Stat {
        String op;
        int start;
        int sign;
        Exp place;
        Exp exp;
        List<Stat> then = new ArrayList<>();
        List<Stat> otherwise = new ArrayList<>();
    }

    private static final class Broken extends RuntimeException {
        private static final long serialVersionUID = 1L;
        final int where;

        Broken(int where) {
            super(null, null, false, false);
            this.where = where;
        }
    }

    private static final Pattern TOKEN = Pattern.compile(
        "(?<real>[0-9]{1,9}\\.[0-9]{1,6})|(?<whole>[0-9]{1,9})|(?<name>[a-z][a-z0-9]{0,7})|(?<column>[A-Z])|(?<sign>[;={}()\\[\\]+\\-*/%<~])");
    private static final List<String> WORDS =
        List.of("let", "if", "else", "repeat", "stop", "give", "size", "row", "whole", "real", "asrow");

    private static List<Token> tokensOf(String text) {
        List<Token> tokens = new ArrayList<>();
        Matcher m = TOKEN.matcher(text);
        int i = 0;
        while (true) {
            while (i < text.length() && (text.charAt(i) == ' ' || text.charAt(i) == '\n')) {
                i++;
            }
            if (i == text.length()) {
                tokens.add(new Token("end", "", i));
                return tokens;
            }
            m.region(i, text.length());
            if (!m.lookingAt()) {
                tokens.add(new Token("wrong", "", i));
                return tokens;
            }
            String t = m.group();
            String what = m.group("real") != null ? "real" : m.group("whole") != null ? "whole"
                : m.group("column") != null ? "column" : m.group("name") != null && !WORDS.contains(t) ? "name" : "fixed";
            tokens.add(new Token(what, t, i));
            i += t.length();
        }
    }

    private List<Token> tokens;
    private int now;
    private int signs;
    private int stats;

    private Token look() {
        return tokens.get(now);
    }

    private boolean sees(String text) {
        return look().what.equals("fixed") && look().text.equals(text);
    }

    private Token take() {
        return tokens.get(now++);
    }

    private Token want(String text) {
        if (!sees(text)) {
            throw new Broken(look().start);
        }
        return take();
    }

    private Token open(String text, int nest) {
        if (nest == 20) {
            throw new Broken(look().start);
        }
        return want(text);
    }

    private List<Stat> parseStats(int nest) {
        List<Stat> all = new ArrayList<>();
        while (!sees("}") && !look().what.equals("end")) {
            all.add(parseStat(nest));
        }
        return all;
    }

    private List<Stat> parseBlock(int nest) {
        open("{", nest);
        List<Stat> all = parseStats(nest + 1);
        want("}");
        return all;
    }

    private Stat parseStat(int nest) {
        Stat s = new Stat();
        s.start = look().start;
        signs = 0;
        stats++;
        if (look().what.equals("name") || look().what.equals("column")) {
            s.op = "put";
            s.place = parseHolder(nest);
            s.sign = want("=").start;
            s.exp = parseExp(nest);
            want(";");
            return s;
        }
        if (!look().what.equals("fixed")) {
            throw new Broken(look().start);
        }
        s.op = look().text;
        switch (s.op) {
            case "let":
                take();
                if (!look().what.equals("name")) {
                    throw new Broken(look().start);
                }
                s.place = leaf(take());
                want("=");
                s.exp = parseExp(nest);
                want(";");
                return s;
            case "give":
                take();
                s.exp = parseExp(nest);
                want(";");
                return s;
            case "stop":
                take();
                want(";");
                return s;
            case "if":
                take();
                s.exp = parseExp(nest);
                s.then = parseBlock(nest);
                if (sees("else")) {
                    take();
                    s.otherwise = parseBlock(nest);
                }
                return s;
            case "repeat":
                take();
                s.exp = parseExp(nest);
                s.then = parseBlock(nest);
                return s;
            default:
                throw new Broken(look().start);
        }
    }

    private static Exp leaf(Token t) {
        Exp e = new Exp();
        e.op = t.what;
        e.text = t.text;
        e.start = t.start;
        e.first = t.start;
        return e;
    }

    private static Exp node(String op, Token at, int first, Exp... parts) {
        Exp e = new Exp();
        e.op = op;
        e.text = at.text;
        e.start = at.start;
        e.first = first;
        e.parts.addAll(List.of(parts));
        return e;
    }

    private Exp parseHolder(int nest) {
        Exp holder = leaf(take());
        if (!sees("[")) {
            return holder;
        }
        Token bracket = open("[", nest);
        Exp index = parseExp(nest + 1);
        want("]");
        return node("[", bracket, holder.first, holder, index);
    }

    private Token takeSign() {
        if (signs == 30) {
            throw new Broken(look().start);
        }
        signs++;
        return take();
    }

    private Exp parseExp(int nest) {
        Exp left = parseSum(nest);
        if (sees("<") || sees("~")) {
            Token sign = takeSign();
            left = node("sign", sign, left.first, left, parseSum(nest));
        }
        return left;
    }

    private Exp parseSum(int nest) {
        Exp left = parsePart(nest);
        while (sees("+") || sees("-")) {
            Token sign = takeSign();
            left = node("sign", sign, left.first, left, parsePart(nest));
        }
        return left;
    }

    private Exp parsePart(int nest) {
        Exp left = parseOne(nest);
        while (sees("*") || sees("/") || sees("%")) {
            Token sign = takeSign();
            left = node("sign", sign, left.first, left, parseOne(nest));
        }
        return left;
    }

    private Exp parseOne(int nest) {
        Token t = look();
        switch (t.what) {
            case "whole":
            case "real":
                return leaf(take());
            case "name":
            case "column":
                return parseHolder(nest);
            default:
                break;
        }
        if (sees("-")) {
            open("-", nest);
            return node("minus", t, t.start, parseOne(nest + 1));
        }
        if (sees("(")) {
            open("(", nest);
            Exp inner = parseExp(nest + 1);
            want(")");
            return node("(", t, t.start, inner);
        }
        if (t.what.equals("fixed") && WORDS.indexOf(t.text) >= 6) {
            take();
            open("(", nest);
            Exp inner = parseExp(nest + 1);
            want(")");
            return node("word", t, t.start, inner);
        }
        throw new Broken(t.start);
    }

    int read() {
        String text = tape.toString();
        tape.setLength(0);
        script = null;
        tokens = tokensOf(text);
        now = 0;
        stats = 0;
        List<Stat> all;
        try {
            all = parseStats(0);
            if (!look().what.equals("end")) {
                throw new Broken(look().start);
            }
        } catch (Broken b) {
            faultNumber = 1;
            faultPlace = b.where;
            return -11;
        }
        faults.clear();
        checkStats(all, new LinkedHashMap<>());
        if (!faults.isEmpty()) {
            faultPlace = faults.firstKey();
            faultNumber = faults.get(faultPlace);
            return -10 - faultNumber;
        }
        faultNumber = 0;
        faultPlace = NONE;
        script = all;
        return stats;
    }

    private final TreeMap<Integer, Integer> faults = new TreeMap<>();

    private void wrong(int number, int place) {
        faults.merge(place, number, Math::min);
    }

    /** Kinds as sets of bits 1 WHOLE, 2 REAL, 4 ROW, 8 ANY: an exp in which something does not fit has all of them. */
    private static final int ALL = 15;

    private void checkStats(List<Stat> all, Map<String, Integer> seenOutside) {
        Map<String, Integer> seen = new LinkedHashMap<>(seenOutside);
        for (Stat s : all) {
            checkStat(s, seen);
        }
    }

    private void checkStat(Stat s, Map<String, Integer> seen) {
        switch (s.op) {
            case "let":
                if (seen.containsKey(s.place.text) || seen.size() == 8) {
                    wrong(2, s.place.start);
                }
                int letKind = check(s.exp, seen);
                seen.putIfAbsent(s.place.text, letKind);
                break;
            case "put":
                checkPut(s, seen);
                break;
            case "give":
                if ((check(s.exp, seen) & 3) == 0) {
                    wrong(4, s.exp.first);
                }
                break;
            case "if":
            case "repeat":
                if ((check(s.exp, seen) & 1) == 0) {
                    wrong(4, s.exp.first);
                }
                checkStats(s.then, seen);
                checkStats(s.otherwise, seen);
                break;
            default:
                break;
        }
    }

    private void checkPut(Stat s, Map<String, Integer> seen) {
        Exp holder = s.place.op.equals("[") ? s.place.parts.get(0) : s.place;
        if (holder.op.equals("column") && names.contains(holder.text.charAt(0)) && !writables.get(columnOf(holder))) {
            wrong(5, holder.start);
        }
        int place = check(s.place, seen);
        int comes = check(s.exp, seen);
        if ((place & 8) == 0 && (place & comes) == 0) {
            wrong(4, s.sign);
        }
    }

    private int columnOf(Exp e) {
        return names.indexOf(e.text.charAt(0));
    }

    private int check(Exp e, Map<String, Integer> seen) {
        e.kind = kindOf(e, seen);
        return e.kind;
    }

    private int kindOf(Exp e, Map<String, Integer> seen) {
        int[] k = new int[e.parts.size()];
        boolean broken = false;
        for (int i = 0; i < k.length; i++) {
            k[i] = check(e.parts.get(i), seen);
            broken |= k[i] == ALL;
        }
        switch (e.op) {
            case "whole":
                return 1;
            case "real":
                return 2;
            case "name":
                if (!seen.containsKey(e.text)) {
                    wrong(3, e.start);
                }
                return seen.getOrDefault(e.text, ALL);
            case "column":
                if (columnOf(e) < 0) {
                    wrong(3, e.start);
                    return ALL;
                }
                return 1 << kinds.get(columnOf(e));
            case "(":
                return k[0];
            case "minus":
                return result(e, (k[0] & 3) != 0, k[0], broken);
            case "sign":
                boolean compares = e.text.equals("<") || e.text.equals("~");
                return result(e, (k[0] & k[1] & 3) != 0, compares ? 1 : k[0], broken);
            case "[":
                return result(e, (k[0] & 4) != 0 && (k[1] & 1) != 0, 1, broken);
            default:
                break;
        }
        switch (e.text) {
            case "size":
                return result(e, (k[0] & 4) != 0, 1, broken);
            case "row":
                return result(e, (k[0] & 1) != 0, 4, broken);
            case "whole":
                return result(e, (k[0] & 11) != 0, 1, broken);
            case "real":
                return result(e, (k[0] & 11) != 0, 2, broken);
            default:
                return result(e, (k[0] & 12) != 0, 4, broken);
        }
    }

    private int result(Exp e, boolean fits, int kind, boolean broken) {
        if (!fits) {
            wrong(4, e.start);
        }
        return !fits || broken ? ALL : kind;
    }

    // ---- running ----

    private static final class Fail extends RuntimeException {
        private static final long serialVersionUID = 1L;
        final int what;
        final int where;

        Fail(int what, int where) {
            super(null, null, false, false);
            this.what = what;
            this.where = where;
        }
    }

    private static final class Done extends RuntimeException {
        private static final long serialVersionUID = 1L;
        final transient Object gave;

        Done(Object gave) {
            super(null, null, false, false);
            this.gave = gave;
        }
    }

    private int most;
    private Object[] mine;

    int run(int object, int steps) {
        if (object < 0 || object >= 20) {
            return UNKNOWN;
        }
        if (steps < 1 || steps > 400) {
            return OUTSIDE;
        }
        if (script == null) {
            return STATE;
        }
        Object[] cellsBefore = cells[object].clone();
        IdentityHashMap<int[], int[]> rowsBefore = new IdentityHashMap<>();
        for (Object[] row : cells) {
            for (Object held : row) {
                if (held instanceof int[] r) {
                    rowsBefore.put(r, r.clone());
                }
            }
        }
        taken = 0;
        most = steps;
        mine = cells[object];
        given = null;
        failPlace = NONE;
        try {
            work(script, new LinkedHashMap<>());
            return 0;
        } catch (Done d) {
            given = d.gave;
            return given == null ? 1 : given instanceof Integer ? 2 : 3;
        } catch (Fail f) {
            failedRuns++;
            failPlace = f.where;
            System.arraycopy(cellsBefore, 0, mine, 0, 8);
            rowsBefore.forEach((row, before) -> System.arraycopy(before, 0, row, 0, row.length));
            return -1 - f.what;
        }
    }

    private void step(int place) {
        if (taken == most) {
            throw new Fail(6, place);
        }
        taken++;
    }

    private void work(List<Stat> all, Map<String, Object> localsOutside) {
        Map<String, Object> inner = new LinkedHashMap<>(localsOutside);
        for (Stat s : all) {
            step(s.start);
            workStat(s, inner);
        }
        localsOutside.replaceAll((name, was) -> inner.get(name));
    }

    private void workStat(Stat s, Map<String, Object> locals) {
        switch (s.op) {
            case "let":
                locals.put(s.place.text, value(s.exp, locals));
                break;
            case "put":
                workPut(s, locals);
                break;
            case "stop":
                throw new Done(null);
            case "give":
                throw new Done(value(s.exp, locals));
            case "if":
                work((Integer) value(s.exp, locals) != 0 ? s.then : s.otherwise, locals);
                break;
            default:
                int rounds = (Integer) value(s.exp, locals);
                for (int i = 0; i < rounds; i++) {
                    step(s.start);
                    work(s.then, locals);
                }
                break;
        }
    }

    private void workPut(Stat s, Map<String, Object> locals) {
        if (s.place.op.equals("[")) {
            int[] row = (int[]) value(s.place.parts.get(0), locals);
            int i = (Integer) value(s.place.parts.get(1), locals);
            int v = (Integer) value(s.exp, locals);
            step(s.place.start);
            if (i < 0 || i >= row.length) {
                throw new Fail(2, s.place.start);
            }
            row[i] = v;
        } else if (s.place.op.equals("name")) {
            locals.put(s.place.text, value(s.exp, locals));
        } else {
            mine[columnOf(s.place)] = value(s.exp, locals);
        }
    }

    private Object value(Exp e, Map<String, Object> locals) {
        switch (e.op) {
            case "whole":
                return Integer.valueOf(e.text);
            case "real":
                String[] halves = e.text.split("\\.");
                double v = Long.parseLong(halves[0] + halves[1]);
                for (int i = 0; i < halves[1].length(); i++) {
                    v /= 10.0;
                }
                return v;
            case "name":
                return locals.get(e.text);
            case "column":
                return columnValue(e);
            case "(":
                return value(e.parts.get(0), locals);
            default:
                break;
        }
        Object one = value(e.parts.get(0), locals);
        Object two = e.parts.size() > 1 ? value(e.parts.get(1), locals) : null;
        step(e.start);
        switch (e.op) {
            case "minus":
                return one instanceof Integer v ? (Object) (-v) : (Object) (-(Double) one);
            case "[":
                int[] row = (int[]) one;
                int i = (Integer) two;
                if (i < 0 || i >= row.length) {
                    throw new Fail(2, e.start);
                }
                return row[i];
            case "sign":
                return one instanceof Integer v ? signWholes(e, v, (Integer) two) : signReals(e, (Double) one, (Double) two);
            default:
                return word(e, one);
        }
    }

    private Object columnValue(Exp e) {
        Object held = mine[columnOf(e)];
        int kind = kinds.get(columnOf(e));
        if (held != null || kind == 3) {
            return held;
        }
        if (rule && kind < 2) {
            return kind == 0 ? (Object) 0 : (Object) 0.0;
        }
        throw new Fail(3, e.start);
    }

    private static Object signWholes(Exp e, int x, int y) {
        switch (e.text) {
            case "+":
                return x + y;
            case "-":
                return x - y;
            case "*":
                return x * y;
            case "<":
                return x < y ? 1 : 0;
            case "~":
                return x == y ? 1 : 0;
            default:
                if (y == 0) {
                    throw new Fail(1, e.start);
                }
                return e.text.equals("/") ? x / y : x % y;
        }
    }

    private static Object signReals(Exp e, double x, double y) {
        switch (e.text) {
            case "+":
                return x + y;
            case "-":
                return x - y;
            case "*":
                return x * y;
            case "<":
                return x < y ? 1 : 0;
            case "~":
                return x == y ? 1 : 0;
            case "/":
                return x / y;
            default:
                return x % y;
        }
    }

    private static Object word(Exp e, Object v) {
        boolean any = e.parts.get(0).kind == 8;
        if (any && v == null) {
            throw new Fail(3, e.start);
        }
        switch (e.text) {
            case "size":
                return ((int[]) v).length;
            case "row":
                int n = (Integer) v;
                if (n < 0 || n > 20) {
                    throw new Fail(n < 0 ? 5 : 7, e.start);
                }
                return new int[n];
            case "whole":
                if (any && !(v instanceof Integer)) {
                    throw new Fail(4, e.start);
                }
                return ((Number) v).intValue();
            case "real":
                if (any && !(v instanceof Double)) {
                    throw new Fail(4, e.start);
                }
                return ((Number) v).doubleValue();
            default:
                if (!(v instanceof int[])) {
                    throw new Fail(4, e.start);
                }
                return v;
        }
    }
}
