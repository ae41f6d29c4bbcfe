import java.lang.reflect.InvocationTargetException;
import java.lang.reflect.Method;
import java.lang.reflect.Modifier;
import java.util.ArrayList;
import java.util.Arrays;
import java.util.List;
import java.util.Map;
import java.util.TreeMap;

/** A row of calls by their names, which can be made on a LineMaking and on a PlainLine alike. */
final class Script {
    private static final Map<String, Method> LINE = methodsOf(LineMaking.class), PLAIN = methodsOf(PlainLine.class);

    private final List<String> names = new ArrayList<>();
    private final List<int[]> arguments = new ArrayList<>();

    private static Map<String, Method> methodsOf(Class<?> type) {
        Map<String, Method> all = new TreeMap<>();
        for (Method m : type.getDeclaredMethods()) {
            if (!Modifier.isPublic(m.getModifiers())) continue;
            m.setAccessible(true);
            all.put(m.getName(), m);
        }
        return all;
    }

    static List<String> allNames() {
        return new ArrayList<>(LINE.keySet());
    }

    static int parametersOf(String name) {
        return LINE.get(name).getParameterCount();
    }

    static int call(Object on, String name, int... args) {
        Method m = (on instanceof LineMaking ? LINE : PLAIN).get(name);
        try {
            return (Integer) m.invoke(on, Arrays.stream(args).boxed().toArray());
        } catch (IllegalAccessException | InvocationTargetException e) {
            throw new IllegalStateException(told(name, args) + " threw " + e.getCause(), e);
        }
    }

    static String told(String name, int... args) {
        String list = Arrays.toString(args);
        return name + "(" + list.substring(1, list.length() - 1) + ")";
    }

    Script add(String name, int... args) {
        names.add(name);
        arguments.add(args);
        return this;
    }

    Script add(Script other) {
        names.addAll(other.names);
        arguments.addAll(other.arguments);
        return this;
    }

    Script tape(String text) {
        add("trim", 0);
        for (int i = 0; i < text.length(); i += 12) add("feed", four(text, i), four(text, i + 4), four(text, i + 8));
        return add("trim", text.length());
    }

    Script text(String text, int day) {
        return tape(text).add("text", day);
    }

    Script until(int day) {
        for (int left = day; left > 0; left -= 60) add("run", Math.min(60, left));
        return this;
    }

    private static int four(String text, int at) {
        int v = 0;
        for (int i = at; i < at + 4; i++) v = v << 8 | (i < text.length() ? text.charAt(i) & 255 : 0);
        return v;
    }

    int size() {
        return names.size();
    }

    /** Makes all calls, and answers what the last one answered. */
    int on(Object x) {
        int answer = 0;
        for (int i = 0; i < names.size(); i++) answer = call(x, names.get(i), arguments.get(i));
        return answer;
    }

    LineMaking made() {
        LineMaking x = new LineMaking();
        on(x);
        return x;
    }

    // ---- lines to begin with

    /** Some of everything, an image of another day, a text on the tape, numbers that wait. */
    static Script some() {
        Script s = new Script().add("chains", 6).add("set", 1, 2, 2).add("set", 1, 0, 70).add("bore", 1).add("set", 4, 1, 53);
        s.add("rule", 0, 3).add("rule", 5, 20).add("wet", 2, 7).add("wet", 30, 9);
        for (int i = 0; i < 4; i++) s.add("work", i, i, 40 + i).add("gang", 10 + 20 * i);
        s.add("goes", 0, 0).add("goes", 1, 1).add("goes", 2, 3).add("ahead", 3, 1).add("days", 2, 4);
        s.add("measure", 1, 0, 9).add("measure", 1, 1, 12).add("claim", 0, 9, 1).add("claim", 1, 40, 2);
        s.add("due", 2, 50).add("due", 31, -70).add("face", 3, 5).add("face", 9, 9).add("arch", 3).add("arch", 5).add("arch", 2);
        s.text("late n*7", 0).text("claim w>c", 5);
        s.add("survey", 0, 0, 5).add("note", 0, 1, -1000000005).add("note", 0, 2, 9).add("survey", 1, 1, 3).add("note", 1, 2, -5);
        s.add("run", 4).add("keep").add("call", 30).add("run", 30);
        return s.add("tell", 20).add("tell", 50).add("tell", 0).tape("price k+d*w");
    }

    /** All rows full, and the tape, and 60 numbers waiting. */
    static Script full() {
        Script s = new Script().add("chains", 24);
        for (int i = 0; i < 24; i++) s.add("work", i % 5, i, 100 + i);
        for (int i = 0; i < 8; i++) s.add("gang", 10 + i).add("goes", i, 3 * i).add("arch", 1 + i).add("set", i, 0, 60 + i).add("set", i, 2, i % 4);
        for (int i = 0; i < 6; i++) s.add("face", i, 1 + i);
        for (int i = 0; i < 20; i++) s.add("claim", i, 2 * i, i % 4).add("due", 10 * i, i - 5);
        for (int i = 0; i < 14; i++) s.text(i % 2 == 0 ? "late " + i : "retain " + i, 3 * i);
        s.add("survey", 2, 0, 24).add("note", 2, 0, 7).add("note", 2, 23, -1000000005).add("survey", 3, 1, 24);
        s.add("wet", 1, 9).add("run", 9).add("keep").add("run", 1);
        for (int i = 0; i < 60; i++) s.add("tell", i % 2 == 0 ? 5 : 0);
        for (int i = 0; i < 8; i++) s.add("feed", 0x6c617465, 0x206e2b6e, 0x20202020);
        return s;
    }

    /** Day 1999 is open. */
    static Script lastDay() {
        Script s = new Script().add("work", 1, 7, 9999).add("work", 4, 0, 9999).add("gang", 99).add("goes", 0, 1).add("set", 7, 2, 2).add("bore", 7);
        s.add("set", 7, 0, 60).add("wet", 1999, 8).add("due", 1999, 1).add("measure", 1, 0, 9999).add("measure", 1, 1, 9998).until(1999);
        return s.text("price 9", 1999).text("late 0-n", 1998).add("claim", 1990, 1999, 0).add("arch", 9).add("arch", 9).add("face", 1999, 1).add("keep");
    }
}
