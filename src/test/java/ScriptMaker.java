import java.util.ArrayList;
import java.util.List;
import java.util.Random;

/** Makes random scripts over columns of known kinds; most fit, some do not. */
final class ScriptMaker {
    private static final String[] NAMES = {"a", "b", "c9", "i", "letx", "abcdefgh", "size1", "r", "z", "q0", "iff"};

    private final Random random;
    private final List<Character> columnNames = new ArrayList<>();
    private final List<Integer> columnKinds = new ArrayList<>();
    private final List<String> tokens = new ArrayList<>();
    private final List<String> localNames = new ArrayList<>();
    private final List<Integer> localKinds = new ArrayList<>();
    private double wrongShare;

    ScriptMaker(Random random) {
        this.random = random;
    }

    void addColumn(char name, int kind) {
        columnNames.add(name);
        columnKinds.add(kind);
    }

    void forgetColumns() {
        columnNames.clear();
        columnKinds.clear();
    }

    String script() {
        tokens.clear();
        localNames.clear();
        localKinds.clear();
        wrongShare = random.nextInt(3) == 0 ? 0.04 : 0.0;
        stats(1 + random.nextInt(random.nextInt(5) == 0 ? 30 : 6), 0);
        String text = join();
        if (random.nextInt(5) == 0) {
            text = spoil(text);
        }
        return text.length() > 1480 ? text.substring(0, 1480) : text;
    }

    /** Texts about the limits of 20 in each other and of 30 signs. */
    String limitScript() {
        StringBuilder text = new StringBuilder();
        int nest = random.nextInt(4) == 0 ? 0 : random.nextInt(8);
        for (int i = 0; i < nest; i++) {
            text.append(random.nextBoolean() ? "if 1{" : "repeat 1{");
        }
        text.append("give ");
        int inner = Math.max(0, 18 + random.nextInt(5) - nest);
        StringBuilder closing = new StringBuilder();
        for (int i = 0; i < inner; i++) {
            switch (random.nextInt(3)) {
                case 0:
                    text.append("-");
                    break;
                case 1:
                    text.append("(");
                    closing.insert(0, ")");
                    break;
                default:
                    text.append("whole(");
                    closing.insert(0, ")");
                    break;
            }
        }
        text.append("1").append(closing);
        int signs = random.nextInt(3) == 0 ? 28 + random.nextInt(5) : random.nextInt(3);
        for (int i = 0; i < signs; i++) {
            text.append("+-*".charAt(random.nextInt(3))).append(random.nextInt(9));
        }
        text.append(";");
        for (int i = 0; i < nest; i++) {
            text.append("}");
        }
        return text.toString();
    }

    private String join() {
        StringBuilder text = new StringBuilder();
        for (String token : tokens) {
            if (text.length() > 0 && sticks(text.charAt(text.length() - 1)) && sticks(token.charAt(0))) {
                text.append(' ');
            }
            if (random.nextInt(8) == 0) {
                text.append(random.nextBoolean() ? " " : "\n");
            }
            text.append(token);
        }
        return text.toString();
    }

    private static boolean sticks(char c) {
        return c >= 'a' && c <= 'z' || c >= '0' && c <= '9';
    }

    private String spoil(String text) {
        StringBuilder s = new StringBuilder(text);
        String pieces = ";={}()[]+-*/%<~ .\tAZaz09\n\u00e9";
        for (int n = 1 + random.nextInt(2); n > 0 && s.length() > 0; n--) {
            int i = random.nextInt(s.length());
            char c = pieces.charAt(random.nextInt(pieces.length()));
            switch (random.nextInt(4)) {
                case 0:
                    s.deleteCharAt(i);
                    break;
                case 1:
                    s.insert(i, c);
                    break;
                case 2:
                    s.setCharAt(i, c);
                    break;
                default:
                    s.setLength(i);
                    break;
            }
        }
        return s.toString();
    }

    private void put(String... all) {
        tokens.addAll(List.of(all));
    }

    private void stats(int n, int depth) {
        int seen = localNames.size();
        for (int i = 0; i < n; i++) {
            stat(depth);
        }
        while (localNames.size() > seen) {
            localNames.remove(localNames.size() - 1);
            localKinds.remove(localKinds.size() - 1);
        }
    }

    private void block(int depth) {
        put("{");
        stats(random.nextInt(4), depth + 1);
        put("}");
    }

    private void stat(int depth) {
        int which = random.nextInt(20);
        if (which < 5) {
            let();
        } else if (which < 13) {
            change();
        } else if (which < 16 && depth < 3) {
            put("if");
            exp(0, 2);
            block(depth);
            if (random.nextBoolean()) {
                put("else");
                block(depth);
            }
        } else if (which < 18 && depth < 3) {
            put("repeat");
            if (random.nextInt(4) == 0) {
                exp(0, 1);
            } else {
                put(String.valueOf(random.nextInt(12)));
            }
            block(depth);
        } else if (which == 18) {
            put("give");
            exp(random.nextInt(2), 3);
            put(";");
        } else if (random.nextInt(6) == 0) {
            put("stop", ";");
        } else {
            change();
        }
    }

    private void let() {
        String name = NAMES[random.nextInt(NAMES.length)];
        if ((localNames.contains(name) || localNames.size() == 8) && random.nextDouble() >= wrongShare * 4) {
            change();
            return;
        }
        int kind = random.nextInt(4);
        if (kind == 3 && holder(3) == null) {
            kind = 0;
        }
        put("let", name, "=");
        exp(kind, 3);
        put(";");
        localNames.add(name);
        localKinds.add(kind);
    }

    private void change() {
        int kind = random.nextInt(4);
        if (random.nextInt(3) == 0) {
            String row = holder(2);
            if (row != null) {
                put(row, "[");
                index();
                put("]", "=");
                exp(0, 3);
                put(";");
                return;
            }
        }
        String place = holder(kind);
        if (place == null) {
            put("give");
            exp(0, 2);
            put(";");
            return;
        }
        put(place, "=");
        exp(kind == 3 ? random.nextInt(4) : kind, 3);
        put(";");
    }

    private String holder(int kind) {
        List<String> all = new ArrayList<>();
        boolean wrong = random.nextDouble() < wrongShare;
        for (int i = 0; i < localNames.size(); i++) {
            if (localKinds.get(i) == kind || wrong) {
                all.add(localNames.get(i));
            }
        }
        for (int i = 0; i < columnNames.size(); i++) {
            if (columnKinds.get(i) == kind || wrong) {
                all.add(String.valueOf(columnNames.get(i)));
            }
        }
        if (wrong) {
            all.add(NAMES[random.nextInt(NAMES.length)]);
            all.add(String.valueOf((char) ('A' + random.nextInt(26))));
        }
        return all.isEmpty() ? null : all.get(random.nextInt(all.size()));
    }

    private void index() {
        if (random.nextInt(3) == 0) {
            exp(0, 1);
        } else {
            put(String.valueOf(random.nextInt(6)));
        }
    }

    private void exp(int kindAsked, int depth) {
        int kind = random.nextDouble() < wrongShare ? random.nextInt(4) : kindAsked;
        if (random.nextInt(12) == 0 && depth > 0) {
            put("(");
            exp(kind, depth - 1);
            put(")");
            return;
        }
        switch (kind) {
            case 0:
                wholeExp(depth);
                break;
            case 1:
                realExp(depth);
                break;
            case 2:
                rowExp(depth);
                break;
            default:
                String any = holder(3);
                put(any == null ? "D" : any);
                break;
        }
    }

    private void two(String signs, int kind, int depth) {
        boolean compares = signs.equals("<~");
        parted(compares, kind, depth);
        put(String.valueOf(signs.charAt(random.nextInt(signs.length()))));
        parted(compares, kind, depth);
    }

    private void parted(boolean plain, int kind, int depth) {
        boolean parens = !plain || random.nextBoolean();
        if (parens) {
            put("(");
        }
        exp(kind, depth - 1);
        if (parens) {
            put(")");
        }
    }

    private void word(String word, int kind, int depth) {
        put(word, "(");
        exp(kind, depth - 1);
        put(")");
    }

    private void wholeExp(int depth) {
        int which = depth <= 0 ? random.nextInt(2) : random.nextInt(11);
        String held = holder(0);
        String row = holder(2);
        if (which == 1 && held != null || which == 2 && held != null) {
            put(held);
        } else if (which == 3 || which == 4) {
            two("+-*/%", 0, depth);
        } else if (which == 5) {
            two("<~", random.nextInt(2), depth);
        } else if (which == 6) {
            put("-");
            put("(");
            wholeExp(depth - 1);
            put(")");
        } else if (which == 7 && row != null) {
            put(row, "[");
            index();
            put("]");
        } else if (which == 8) {
            word("size", 2, depth);
        } else if (which == 9) {
            word("whole", new int[] {0, 1, 3}[random.nextInt(3)], depth);
        } else {
            put(wholeText());
        }
    }

    private String wholeText() {
        switch (random.nextInt(6)) {
            case 0:
                return "999999999";
            case 1:
                return "00" + random.nextInt(30);
            case 2:
                return String.valueOf(random.nextInt(1000000000));
            default:
                return String.valueOf(random.nextInt(7));
        }
    }

    private String realText() {
        switch (random.nextInt(5)) {
            case 0:
                return "0.0";
            case 1:
                return "999999999." + random.nextInt(10);
            case 2:
                return "0.00000" + random.nextInt(10);
            default:
                return random.nextInt(30) + "." + random.nextInt(1000000);
        }
    }

    private void realExp(int depth) {
        int which = depth <= 0 ? random.nextInt(2) : random.nextInt(9);
        String held = holder(1);
        if (which == 1 && held != null || which == 2 && held != null) {
            put(held);
        } else if (which >= 3 && which <= 5) {
            two("+-*/%*/%", 1, depth);
        } else if (which == 6) {
            put("-");
            put("(");
            realExp(depth - 1);
            put(")");
        } else if (which == 7) {
            word("real", new int[] {0, 1, 3}[random.nextInt(3)], depth);
        } else {
            put(realText());
        }
    }

    private void rowExp(int depth) {
        String held = holder(2);
        int which = random.nextInt(6);
        if (which < 3 && held != null) {
            put(held);
        } else if (which == 3 && depth > 0) {
            word("asrow", random.nextBoolean() ? 2 : 3, depth);
        } else {
            put("row", "(");
            if (random.nextInt(6) == 0) {
                exp(0, depth - 1);
            } else {
                put(String.valueOf(random.nextInt(8)));
            }
            put(")");
        }
    }
}
