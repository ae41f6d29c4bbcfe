import java.util.ArrayList;
import java.util.List;

/**
 * Each call with arguments at and beside numbers that the document names, in all combinations (of fewer numbers for
 * calls that take three or more), on lines that are new, begun, full and at their last day: LineMaking must answer as
 * PlainLine does, and never throw.
 */
public final class EdgeTwinTest {
    private static final int NONE = LineMaking.NONE;
    private static final int[] EDGES = {Integer.MIN_VALUE, LineMaking.BAD, NONE, -100001, -100000, -99999, -2, -1, 0, 1, 2, 3, 4, 5, 6, 7, 8, 9, 10,
        13, 14, 19, 20, 23, 24, 25, 30, 31, 60, 61, 96, 97, 99, 100, 399, 400, 999, 1998, 1999, 2000, 9999, 10000, 32768, 99999, 100000, 100001,
        16777215, 16777216, Integer.MAX_VALUE};
    /** For calls with four numbers and five. */
    private static final int[] FEW = {Integer.MIN_VALUE, -1, 0, 1, 2, 3, 4, 5, 24, Integer.MAX_VALUE};
    /** The document's 512 calls, less what makes the line. */
    private static final int CALLS = 512;

    private static long compared = 0;

    public static void main(String[] args) {
        Script[] begun = {new Script(), Script.some(), Script.full(), Script.lastDay()};
        for (String name : Script.allNames()) {
            for (Script script : begun) holds(name, script);
        }
        System.out.println(compared + " answers at edges, both the same");
    }

    private static void holds(String name, Script begun) {
        List<int[]> all = new ArrayList<>();
        int many = Script.parametersOf(name);
        combine(all, new int[many], 0, many == 3 ? thinned(name) : many > 3 ? FEW : EDGES);
        for (int from = 0; from < all.size();) {
            LineMaking line = new LineMaking();
            PlainLine plain = new PlainLine();
            begun.on(line);
            begun.on(plain);
            for (int calls = begun.size(); calls < CALLS && from < all.size(); calls++, from++) {
                same(name, all.get(from), line, plain);
            }
        }
    }

    /** Three numbers: days matter for claims alone, halves for notes alone. */
    private static int[] thinned(String name) {
        List<Integer> some = new ArrayList<>();
        for (int v : EDGES) {
            boolean days = v >= 1998 && v <= 2000;
            boolean halves = Math.abs((long) v) >= 32768 && Math.abs((long) v) <= 100001;
            boolean small = v >= -2 && v <= 10 || v >= 23 && v <= 25 || v >= 99 && v <= 100 || v >= 9999 && v <= 10000;
            boolean wild = v == NONE || v == Integer.MIN_VALUE || v == Integer.MAX_VALUE;
            if (small || wild || days && name.equals("claim") || halves && name.equals("note")) some.add(v);
        }
        return some.stream().mapToInt(i -> i).toArray();
    }

    private static void combine(List<int[]> all, int[] args, int at, int[] values) {
        if (at == args.length) {
            all.add(args.clone());
            return;
        }
        for (int v : values) {
            args[at] = v;
            combine(all, args, at + 1, values);
        }
    }

    private static void same(String name, int[] args, LineMaking line, PlainLine plain) {
        int got = Script.call(line, name, args);
        int want = Script.call(plain, name, args);
        compared++;
        if (got != want) {
            System.out.println(Script.told(name, args) + " answered " + got + ", due is " + want);
            System.exit(1);
        }
    }
}
