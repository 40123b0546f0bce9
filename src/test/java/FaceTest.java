import java.lang.reflect.Constructor;
import java.lang.reflect.Field;
import java.lang.reflect.Method;
import java.lang.reflect.Modifier;
import java.util.ArrayList;
import java.util.Arrays;
import java.util.List;
import java.util.TreeSet;

/** The public face, and promise 1: a new object. */
public final class FaceTest {
    private static final List<String> FACE = List.of(
        "int feed(int,int,int,int,int)", "int end(int)", "int column(int,int,boolean)", "int rule(boolean)",
        "int cell(int,int,int)", "int cellRow(int,int,int)", "int cellPut(int,int,int,int)", "int miss(int,int)",
        "int holds(int,int)", "int whole(int,int)", "double real(int,int)", "int at(int,int,int)",
        "int same(int,int,int,int)", "int read()", "int fault(int)", "int run(int,int)", "int gave()",
        "double gaveReal()", "int place()", "int taken()", "int count(int)", "int clear()");

    private FaceTest() {
    }

    public static void main(String[] args) {
        Due due = new Due("FaceTest");
        constants(due);
        methods(due);
        newObject(due, new ScriptLanguage());
        due.close();
    }

    private static void constants(Due due) {
        due.is("UNKNOWN", ScriptLanguage.UNKNOWN, -1000001);
        due.is("OUTSIDE", ScriptLanguage.OUTSIDE, -1000002);
        due.is("STATE", ScriptLanguage.STATE, -1000003);
        due.is("ROOM", ScriptLanguage.ROOM, -1000004);
        due.is("NONE", ScriptLanguage.NONE, -1000009);
    }

    private static void methods(Due due) {
        TreeSet<String> shown = new TreeSet<>();
        TreeSet<String> hidden = new TreeSet<>();
        for (Method m : ScriptLanguage.class.getDeclaredMethods()) {
            if (Modifier.isPrivate(m.getModifiers())) {
                hidden.add(m.getName());
            } else {
                List<String> types = new ArrayList<>();
                for (Class<?> type : m.getParameterTypes()) {
                    types.add(type.getName());
                }
                shown.add(m.getReturnType().getName() + " " + m.getName() + "(" + String.join(",", types) + ")");
            }
        }
        due.is("the methods " + shown, shown.equals(new TreeSet<>(FACE)) ? 1 : 0, 1);
        for (String method : FACE) {
            String name = method.substring(method.indexOf(' ') + 1, method.indexOf('('));
            due.is("a private method named " + name, hidden.contains(name) ? 1 : 0, 0);
        }
        TreeSet<String> fields = new TreeSet<>();
        for (Field f : ScriptLanguage.class.getDeclaredFields()) {
            if (!Modifier.isPrivate(f.getModifiers())) {
                fields.add(f.getName());
            }
            boolean isStatic = Modifier.isStatic(f.getModifiers());
            due.is("a static field that is not final: " + f, isStatic && !Modifier.isFinal(f.getModifiers()) ? 1 : 0, 0);
        }
        due.is("the fields " + fields,
            fields.equals(new TreeSet<>(Arrays.asList("UNKNOWN", "OUTSIDE", "STATE", "ROOM", "NONE"))) ? 1 : 0, 1);
        Constructor<?>[] constructors = ScriptLanguage.class.getDeclaredConstructors();
        due.is("constructors", constructors.length, 1);
        due.is("its parameters", constructors[0].getParameterCount(), 0);
        due.is("final", Modifier.isFinal(ScriptLanguage.class.getModifiers()) ? 1 : 0, 1);
    }

    static void newObject(Due due, ScriptLanguage x) {
        for (int what = 0; what <= 4; what++) {
            due.is("count(" + what + ") of a new object", x.count(what), 0);
        }
        due.is("run without a script", x.run(0, 1), ScriptLanguage.STATE);
        due.is("holds without columns", x.holds(0, 0), ScriptLanguage.UNKNOWN);
        due.is("fault(0)", x.fault(0), 0);
        due.is("fault(1)", x.fault(1), ScriptLanguage.NONE);
        due.is("gave()", x.gave(), 0);
        due.isReal("gaveReal()", x.gaveReal(), 0.0);
        due.is("place()", x.place(), ScriptLanguage.NONE);
        due.is("taken()", x.taken(), 0);
        due.is("rule(false), which was off", x.rule(false), 0);
        due.is("clear()", x.clear(), 0);
    }
}
