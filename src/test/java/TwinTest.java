import java.lang.reflect.InvocationTargetException;
import java.lang.reflect.Method;
import java.util.ArrayList;
import java.util.Arrays;
import java.util.Comparator;
import java.util.List;
import java.util.Map;
import java.util.Random;
import java.util.TreeMap;

/** Long runs of drawn calls (by fixed seeds), each answered by LineMaking and by PlainLine: the answers must be the same. */
public final class TwinTest {
    private static final int CALLS = 512;
    private static final int[] ODD = {Integer.MIN_VALUE, Integer.MAX_VALUE, -1, -2, 0, LineMaking.NONE, LineMaking.BAD, 2000, 10000};

    /** Each run favours one of these, so that its rows fill up and its edges are met. */
    private static final String[] GROUPS = {
        "chains set set set at rule rule steep best lay haul",
        "set set set bore work work gang goes wet wet wet run told at foretold count",
        "work ahead ahead days goes gang run told through chain chain count",
        "work work gang goes measure measure run run price call due count keep back",
        "why rules rules price of late run keep back",
        "wet wet wet claim claim given given late rule",
        "call due due out out run",
        "face face meets arch arch order order order",
        "survey note note note note read read read copy",
        "keep back set work gang goes wet call due measure run count",
    };

    private final Random draw;
    private final LineMaking line = new LineMaking();
    private final PlainLine plain = new PlainLine();
    private final List<String> history = new ArrayList<>();
    private final boolean calm;
    private final List<String> favoured;
    private static final Map<String, Integer> ANSWERED = new TreeMap<>();

    private TwinTest(long seed) {
        draw = new Random(seed);
        calm = draw.nextBoolean();
        favoured = List.of(GROUPS[draw.nextInt(GROUPS.length)].split(" "));
    }

    public static void main(String[] args) throws Exception {
        int runs = args.length > 0 ? Integer.parseInt(args[0]) : 1000;
        Method[] methods = publicMethods();
        for (int seed = 0; seed < runs; seed++) {
            if (!new TwinTest(seed).goes(methods, seed)) System.exit(1);
        }
        if (args.length > 1) ANSWERED.forEach((k, v) -> System.out.println(k + " " + v));
        for (Method m : methods) {
            if (!ANSWERED.containsKey(m.getName() + " taken")) {
                System.out.println(m.getName() + " was never taken");
                System.exit(1);
            }
        }
        System.out.println(runs + " runs, both the same");
    }

    private static Method[] publicMethods() {
        Method[] all = Arrays.stream(LineMaking.class.getDeclaredMethods())
            .filter(m -> java.lang.reflect.Modifier.isPublic(m.getModifiers())).toArray(Method[]::new);
        Arrays.sort(all, Comparator.comparing(Method::getName));
        return all;
    }

    private boolean goes(Method[] methods, int seed) throws Exception {
        int used = 0;
        // Some runs are about the last days.
        for (int i = 0; seed % 10 == 9 && i < 33; i++, used++) call("run", 60);
        while (used < CALLS) {
            int pick = draw.nextInt(100);
            if (pick < 4) {
                used += feedsText();
            } else if (pick < 6) {
                used += tellsDays();
            } else {
                String name = favoured.get(draw.nextInt(favoured.size()));
                boolean favours = draw.nextInt(3) > 0;
                Method m = methods[draw.nextInt(methods.length)];
                for (Method other : methods) if (favours && other.getName().equals(name)) m = other;
                if (calm && !favours && List.of("back", "chains", "survey", "text", "trim").contains(m.getName()) && draw.nextInt(4) > 0) continue;
                call(m.getName(), argumentsOf(m));
                used++;
            }
            ANSWERED.merge("slips seen " + plain.count(3), 1, Integer::sum);
            if (plain.count(11) > 0) ANSWERED.merge("retained seen", 1, Integer::sum);
            if (wrong) {
                System.out.println("seed " + seed + ":");
                history.forEach(System.out::println);
                return false;
            }
        }
        return true;
    }

    private boolean wrong = false;

    private int call(String name, int... args) throws Exception {
        Class<?>[] types = new Class<?>[args.length];
        Arrays.fill(types, int.class);
        Object[] boxed = Arrays.stream(args).boxed().toArray();
        int want = answer(PlainLine.class.getMethod(name, types), plain, boxed);
        int got = answer(LineMaking.class.getMethod(name, types), line, boxed);
        String shown = Arrays.toString(args);
        history.add(name + "(" + shown.substring(1, shown.length() - 1) + ") answered " + got + (got == want ? "" : ", due is " + want));
        if (got != want) wrong = true;
        String kind = got <= -1000000001 && got >= -1000000014 ? Integer.toString(got) : "taken";
        ANSWERED.merge(name + " " + kind, 1, Integer::sum);
        return got;
    }

    private static int answer(Method m, Object on, Object[] args) throws IllegalAccessException {
        try {
            m.setAccessible(true);
            return (Integer) m.invoke(on, args);
        } catch (InvocationTargetException e) {
            e.getCause().printStackTrace();
            return 77777777;
        }
    }

    private int upTo(int n) {
        return draw.nextInt(Math.max(1, n));
    }

    private int someWork() {
        return upTo(plain.s.jobs.size() + (draw.nextInt(20) == 0 ? 1 : 0));
    }

    private int someChain() {
        return upTo(plain.s.chains.size() + (draw.nextInt(30) == 0 ? 1 : 0));
    }

    private int someDay() {
        return draw.nextInt(3) == 0 ? upTo(2000) : Math.min(1999, plain.s.day + upTo(40));
    }

    private int someSet() {
        int bits = 0;
        for (int i = draw.nextInt(4); i > 0; i--) bits |= 1 << upTo(draw.nextInt(15) == 0 ? 24 : plain.s.jobs.size());
        return bits;
    }

    private int[] argumentsOf(Method m) {
        int[] args = usual(m.getName());
        if (args.length > 0 && draw.nextInt(25) == 0) args[upTo(args.length)] = ODD[upTo(ODD.length)];
        return args;
    }

    private int[] usual(String name) {
        switch (name) {
            case "chains": return new int[] {1 + upTo(25)};
            case "set": {
                int what = upTo(3);
                return new int[] {someChain(), what, what == 2 ? upTo(4) : draw.nextInt(30) == 0 ? 100 : upTo(100)};
            }
            case "bore": case "best": return new int[] {someChain() - (name.equals("best") && draw.nextBoolean() ? 1 : 0)};
            case "at": return new int[] {someChain(), upTo(6)};
            case "rule": {
                int what = upTo(6);
                return new int[] {what, what < 3 ? upTo(11) : what < 5 ? upTo(draw.nextBoolean() ? 12 : 101) : upTo(draw.nextBoolean() ? 50 : 2001)};
            }
            case "work": return new int[] {draw.nextInt(3) == 0 ? 1 : upTo(7), someChain(), 1 + upTo(draw.nextBoolean() ? 40 : 9999)};
            case "told": return new int[] {someWork(), upTo(13)};
            case "as": return new int[] {someWork(), upTo(7)};
            case "ahead": return new int[] {someWork(), draw.nextInt(12) == 0 ? upTo(16777217) : someSet()};
            case "days": return new int[] {someWork(), upTo(101)};
            case "gang": return new int[] {upTo(101)};
            case "goes": return new int[] {upTo(plain.s.crews.size()), draw.nextInt(8) == 0 ? LineMaking.NONE : someWork()};
            case "wet": return new int[] {someDay(), upTo(10) + (draw.nextInt(30) == 0 ? 1 : 0)};
            case "run": return new int[] {draw.nextInt(3) == 0 ? 1 : 1 + upTo(calm ? 31 : 61)};
            case "trim": return new int[] {upTo(plain.tape.length + 2)};
            case "feed": return new int[] {draw.nextInt(), draw.nextInt(), draw.nextInt()};
            case "text": return new int[] {someDay()};
            case "of": return new int[] {upTo(plain.s.laws.size()), upTo(3)};
            case "why": return new int[] {upTo(4)};
            case "rules": return new int[] {upTo(4), upTo(20) - 3, upTo(20) - 3, draw.nextInt(9) == 0 ? draw.nextInt() : upTo(50) - 5};
            case "price": case "through": return new int[] {someWork()};
            case "measure": if (!plain.s.jobs.isEmpty() && draw.nextBoolean()) {
                int work = upTo(plain.s.jobs.size());
                return new int[] {work, upTo(2), Math.max(0, plain.s.jobs.get(work).done + upTo(9) - 6)};
            }
            return new int[] {someWork(), upTo(2), upTo(draw.nextBoolean() ? 40 : 10001)};
            case "claim": {
                int from = someDay();
                return new int[] {from, from + upTo(draw.nextInt(9) == 0 ? 1500 : 40) - (draw.nextInt(20) == 0 ? 1 : 0), upTo(4)};
            }
            case "given": return new int[] {upTo(plain.s.claims.size())};
            case "late": return new int[] {draw.nextInt(9) == 0 ? upTo(10002) : plain.s.rule[5] + upTo(60)};
            case "call": return new int[] {upTo(draw.nextInt(9) == 0 ? 100001 : 300)};
            case "due": return new int[] {Math.min(someDay(), plain.s.day + upTo(500)) , draw.nextInt(9) == 0 ? draw.nextInt(200004) - 100002 : upTo(601) - 300};
            case "face": return new int[] {someDay(), upTo(101)};
            case "meets": return new int[] {upTo(10002)};
            case "arch": return new int[] {upTo(11)};
            case "order": return new int[] {upTo(11), upTo(9)};
            case "chain": return new int[] {someWork(), upTo(6)};
            case "survey": return new int[] {upTo(4), draw.nextInt(9) == 0 ? draw.nextInt(5) - 2 : draw.nextInt(2), draw.nextInt(9) == 0 ? 24 + upTo(2) : upTo(8) - (draw.nextInt(9) == 0 ? 1 : 0)};
            case "note": return new int[] {upTo(4), somePlace(), draw.nextInt(2) == 0 ? LineMaking.NONE : draw.nextInt(9) == 0 ? draw.nextInt(200006) - 100003 : draw.nextInt(7) == 0 ? draw.nextInt() : upTo(61) - 30};
            case "read": return new int[] {upTo(4), somePlace()};
            case "copy": return new int[] {upTo(4), somePlace(), upTo(4), somePlace(), upTo(5) - (draw.nextInt(9) == 0 ? 1 : 0)};
            case "tell": return new int[] {upTo(3)};
            case "check": return new int[] {upTo(32)};
            case "count": return new int[] {upTo(15)};
            default: return new int[0];
        }
    }

    private int somePlace() {
        return upTo(draw.nextInt(9) == 0 ? 26 : 7);
    }

    /** Tells the days as they are due, or with one wrong, one missing or one too many. */
    private int tellsDays() throws Exception {
        if (plain.image == null) return 0;
        int n = 1 + upTo(draw.nextInt(4) == 0 ? 30 : 4);
        List<Integer> due = plain.daysTold(n);
        int flaw = draw.nextInt(6);
        if (flaw == 0) due.remove(due.size() - 1);
        if (flaw == 1) due.set(upTo(due.size()), draw.nextInt(3));
        if (flaw == 2) due.add(draw.nextInt(2));
        int used = 2;
        call("check", 0);
        for (int v : due) {
            call("tell", v);
            used++;
        }
        call("check", n);
        ANSWERED.merge("days told of " + (plain.image.day + n > 1999 ? "days behind 1999" : "others"), 1, Integer::sum);
        return used;
    }

    private int feedsText() throws Exception {
        StringBuilder t = new StringBuilder();
        int key = upTo(4);
        t.append(" ".repeat(draw.nextInt(5) == 0 ? 2 : 0));
        t.append(new String[] {"price", "retain", "late", "claim"}[key]);
        t.append(draw.nextInt(6) == 0 ? "" : " ");
        expression(t, key, draw.nextInt(6));
        if (draw.nextInt(4) == 0) spoil(t);
        if (draw.nextInt(9) == 0) deepen(t, key);
        if (t.length() > 96) t.setLength(96);
        int used = 2;
        call("trim", 0);
        for (int i = 0; i < t.length(); i += 12) {
            call("feed", four(t, i), four(t, i + 4), four(t, i + 8));
            used++;
        }
        call("trim", t.length());
        call("text", draw.nextInt(30) == 0 ? 2000 : draw.nextInt(4) > 0 ? Math.max(0, plain.s.day - upTo(20)) : someDay());
        return used + 1;
    }

    private static int four(StringBuilder t, int at) {
        int v = 0;
        for (int i = at; i < at + 4; i++) v = v << 8 | (i < t.length() ? t.charAt(i) & 255 : 0);
        return v;
    }

    private void blank(StringBuilder t) {
        if (draw.nextInt(6) == 0) t.append(' ');
    }

    private void expression(StringBuilder t, int key, int depth) {
        int parts = 1 + draw.nextInt(3);
        boolean tested = false;
        for (int i = 0; i < parts; i++) {
            if (i > 0) {
                blank(t);
                char sign = "|&<=>+-*/+*".charAt(draw.nextInt(11));
                if ("<=>".indexOf(sign) >= 0) {
                    if (tested && draw.nextInt(8) > 0) sign = '-';
                    tested = true;
                } else if ("|&".indexOf(sign) >= 0) {
                    tested = false;
                }
                t.append(sign);
                blank(t);
            }
            part(t, key, depth);
        }
    }

    private void part(StringBuilder t, int key, int depth) {
        int pick = draw.nextInt(depth > 0 ? 8 : 5);
        if (pick < 3) {
            String names = new String[] {"kdw", "ky", "n", "cw"}[key];
            t.append(names.charAt(draw.nextInt(names.length())));
        } else if (pick < 5) {
            t.append(draw.nextInt(9) == 0 ? draw.nextInt(12000) : draw.nextInt(12));
        } else if (pick == 5) {
            t.append('!');
            blank(t);
            part(t, key, depth - 1);
        } else {
            t.append('(');
            blank(t);
            expression(t, key, depth - 1);
            blank(t);
            t.append(')');
        }
    }

    private void spoil(StringBuilder t) {
        int at = upTo(t.length());
        int pick = draw.nextInt(3);
        if (pick == 0) t.deleteCharAt(at);
        char[] any = {' ', 'k', 'w', '7', '1', '(', ')', '!', '<', '&', (char) 0, (char) 233, 'K', '\n', 'a'};
        if (pick == 1) t.insert(at, any[draw.nextInt(any.length)]);
        if (pick == 2) t.setLength(at);
    }

    /** Brackets and nots around the edge of what may be open at once. */
    private void deepen(StringBuilder t, int key) {
        t.setLength(0);
        t.append(new String[] {"price", "retain", "late", "claim"}[key]);
        int brackets = 5 + draw.nextInt(5);
        int nots = 5 + draw.nextInt(5);
        int open = 0;
        while (brackets + nots > 0) {
            if (draw.nextInt(brackets + nots) < brackets) {
                t.append('(');
                brackets--;
                open++;
            } else {
                t.append('!');
                nots--;
                if (draw.nextInt(6) == 0) t.append(1).append('*');
            }
        }
        t.append('5');
        for (int i = 0; i < open; i++) t.append(')');
        if (draw.nextBoolean()) t.append("+!!!!!!!!1");
    }
}
