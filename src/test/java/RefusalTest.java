import java.util.List;

/** Each refusal of each call: what it answers, of several the one that stands first, and that nothing is changed by it. */
public final class RefusalTest {
    private static final int BAD = LineMaking.BAD, NO = LineMaking.NO, FULL = LineMaking.FULL, NONE = LineMaking.NONE;
    private static final int NOTHING = LineMaking.NOTHING, KIND = LineMaking.KIND, INDEX = LineMaking.INDEX, SIZE = LineMaking.SIZE;
    private static final int LOW = Integer.MIN_VALUE, HIGH = Integer.MAX_VALUE;

    private static int asked = 0, wrong = 0;
    private static String name;
    private static Script made;
    private static List<Integer> before;

    public static void main(String[] args) {
        onANewOne();
        onSome();
        onAFullOne();
        onTheLastDay();
        textUsesUpTheTape();
        checkLeavesNoneWaiting();
        System.out.println(wrong == 0 ? asked + " refused calls changed nothing" : wrong + " faults in " + asked + " refused calls");
        if (wrong != 0) System.exit(1);
    }

    private static void with(String which, Script script) {
        name = which;
        made = script;
        before = Look.at(script);
    }

    private static void refused(int due, String call, int... args) {
        asked++;
        Script then = new Script().add(made).add(call, args);
        int got = then.on(new LineMaking());
        if (got != due) fault(call, args, "answered " + got + ", due is " + due);
        List<Integer> after = Look.at(then);
        if (!after.equals(before)) fault(call, args, "changed something");
    }

    private static void fault(String call, int[] args, String what) {
        wrong++;
        System.out.println(name + ", " + Script.told(call, args) + ": " + what);
    }

    private static void onANewOne() {
        with("a new one", new Script());
        for (int n : new int[] {1, 25, LOW, HIGH}) refused(BAD, "chains", n);
        refused(BAD, "set", 8, 0, 1);
        refused(BAD, "bore", 8);
        refused(BAD, "best", -2);
        refused(BAD, "goes", 0, NONE);
        refused(BAD, "goes", 0, 0);
        refused(BAD, "ahead", 0, 0);
        refused(BAD, "days", 0, 1);
        refused(BAD, "measure", 0, 0, 1);
        refused(BAD, "trim", 1);
        refused(-100, "text", 0);
        refused(BAD, "text", -1);
        refused(NO, "back");
        refused(NO, "check", 1);
        refused(BAD, "check", 0);
        refused(BAD, "check", 31);
        refused(NOTHING, "note", 0, 0, 0);
        refused(NOTHING, "copy", 0, 0, 1, 0, 1);
        refused(NONE, "meets", 1);
        refused(NONE, "order", 0, 0);
    }

    private static void onSome() {
        with("some", Script.some());
        lineRefusals();
        workRefusals();
        rowRefusals();
        surveyRefusals();
    }

    private static void lineRefusals() {
        refused(NO, "chains", 6);
        refused(NO, "chains", 24);
        for (int n : new int[] {1, 25, LOW, HIGH}) refused(BAD, "chains", n);
        for (int chain : new int[] {-1, 6, LOW, HIGH}) {
            refused(BAD, "set", chain, 0, 1);
            refused(BAD, "bore", chain);
            refused(BAD, "at", chain, 0);
            refused(BAD, "best", chain == -1 ? -2 : chain);
            refused(BAD, "work", 0, chain, 1);
        }
        for (int what : new int[] {-1, 3}) refused(BAD, "set", 0, what, 1);
        for (int v : new int[] {-1, 100, LOW, HIGH}) {
            refused(BAD, "set", 0, 0, v);
            refused(BAD, "set", 0, 1, v);
            refused(BAD, "set", 0, 2, v == 100 ? 4 : v);
        }
        int[] highest = {9, 9, 9, 99, 99, 1999};
        for (int what = 0; what < 6; what++) {
            refused(BAD, "rule", what, -1);
            refused(BAD, "rule", what, highest[what] + 1);
        }
        refused(BAD, "rule", 6, 1);
        refused(BAD, "rule", -1, 1);
    }

    private static void workRefusals() {
        for (int kind : new int[] {-1, 5, 7}) refused(BAD, "work", kind, 0, 1);
        for (int yards : new int[] {0, 10000}) refused(BAD, "work", 0, 0, yards);
        // With the slip that chain 1 has by now there are five.
        for (int work : new int[] {-1, 5}) {
            refused(BAD, "told", work, 0);
            refused(BAD, "as", work, 0);
            refused(BAD, "ahead", work, 1);
            refused(BAD, "days", work, 2);
            refused(BAD, "goes", 0, work);
            refused(BAD, "price", work);
            refused(BAD, "measure", work, 0, 1);
            refused(BAD, "through", work);
            refused(BAD, "chain", work, 0);
        }
        refused(KIND, "as", 0, 1);
        refused(BAD, "as", 0, 7);
        for (int set : new int[] {-1, 16777216}) refused(BAD, "ahead", 0, set);
        for (int v : new int[] {0, 100}) {
            refused(BAD, "days", 0, v);
            refused(BAD, "gang", v);
        }
        refused(BAD, "goes", 4, 2);
        refused(BAD, "goes", -1, 2);
        refused(NO, "goes", 3, 0);
        refused(NO, "goes", 0, 1);
        refused(BAD, "goes", 4, 0);
        refused(BAD, "wet", 2000, 1);
        refused(BAD, "wet", -1, 1);
        refused(BAD, "wet", 2, 10);
        refused(BAD, "wet", 2, -1);
        refused(BAD, "run", 0);
        refused(BAD, "run", 61);
        refused(BAD, "run", LOW);
        refused(BAD, "measure", 1, 2, 1);
        refused(BAD, "measure", 1, -1, 1);
        refused(BAD, "measure", 1, 0, 10000);
        refused(BAD, "measure", 1, 0, -1);
    }

    private static void rowRefusals() {
        refused(BAD, "trim", 12);
        refused(BAD, "trim", -1);
        refused(BAD, "of", 2, 0);
        refused(BAD, "why", 4);
        refused(BAD, "rules", 4, 1, 1, 1);
        refused(BAD, "claim", 6, 5, 0);
        refused(BAD, "claim", -1, 5, 0);
        refused(BAD, "claim", 0, 2000, 0);
        refused(BAD, "claim", 0, 5, 4);
        refused(BAD, "given", 2);
        refused(BAD, "late", 10000);
        refused(BAD, "call", 0);
        refused(BAD, "call", 100000);
        refused(BAD, "due", 33, 1);
        refused(BAD, "due", 2000, 1);
        refused(BAD, "due", 34, 100000);
        refused(BAD, "due", 34, -100000);
        refused(BAD, "face", 2000, 1);
        refused(BAD, "face", 0, 100);
        refused(BAD, "meets", 10000);
        refused(BAD, "arch", 0);
        refused(BAD, "arch", 10);
        refused(BAD, "order", 10, 0);
        refused(NONE, "order", 9, 3);
        refused(BAD, "chain", 0, -1);
        refused(BAD, "count", 15);
    }

    private static void surveyRefusals() {
        refused(BAD, "survey", 4, -1, 0);
        refused(BAD, "survey", 0, 2, 1);
        refused(BAD, "survey", 0, 0, 25);
        refused(SIZE, "survey", 0, 0, -1);
        refused(SIZE, "survey", 1, 1, LOW);
        refused(BAD, "note", 4, 0, 1);
        refused(NOTHING, "note", 2, 0, 1);
        refused(INDEX, "note", 0, 5, 1);
        refused(INDEX, "note", 1, 3, NONE);
        refused(KIND, "note", 1, 2, NONE);
        refused(BAD, "note", 0, 1, 100001);
        refused(BAD, "read", 4, 0);
        refused(BAD, "copy", 0, 0, 4, 0, 1);
        refused(NOTHING, "copy", 0, 0, 3, 0, 1);
        refused(KIND, "copy", 0, 0, 1, 0, 1);
        refused(INDEX, "copy", 0, 0, 0, 1, 5);
        refused(INDEX, "copy", 0, 1, 0, 0, 5);
        refused(INDEX, "copy", 0, 0, 0, 1, -1);
        refused(INDEX, "copy", 0, 6, 0, 0, 0);
    }

    private static void onAFullOne() {
        with("a full one", Script.full());
        refused(FULL, "work", 1, 0, 9);
        refused(BAD, "work", 5, 0, 9);
        refused(FULL, "gang", 9);
        refused(BAD, "gang", 0);
        refused(FULL, "feed", 1, 2, 3);
        refused(FULL, "claim", 0, 9, 0);
        refused(BAD, "claim", 9, 0, 0);
        refused(FULL, "due", 10, 5);
        refused(BAD, "due", 9, 5);
        refused(FULL, "face", 0, 9);
        refused(BAD, "face", 0, 0);
        refused(FULL, "arch", 9);
        refused(BAD, "arch", 0);
        refused(FULL, "tell", 9);
        refused(NO, "chains", 24);
        refused(BAD, "chains", 25);
        refused(NO, "goes", 1, 0);
        refused(BAD, "trim", 97);
        refused(BAD, "told", 24, 0);
        refused(BAD, "of", 14, 0);
        refused(BAD, "given", 20);
        refused(INDEX, "note", 2, 24, 0);
        refused(INDEX, "copy", 2, 0, 2, 1, 24);
        refused(NONE, "order", 9, 8);
        refused(NONE, "chain", 0, 24);
    }

    private static void onTheLastDay() {
        with("the last day", Script.lastDay());
        refused(FULL, "run", 1);
        refused(FULL, "run", 60);
        refused(BAD, "run", 61);
        refused(BAD, "due", 1998, 1);
        refused(BAD, "due", 2000, 1);
        refused(BAD, "wet", 2000, 1);
        refused(BAD, "claim", 1999, 2000, 0);
        refused(BAD, "face", 2000, 1);
    }

    /** A text that is refused leaves an empty tape, and all else as it was. */
    private static void textUsesUpTheTape() {
        Object[][] tapes = {{"late 5", 2000, BAD}, {"late 5", -1, BAD}, {"late", 2000, BAD}, {"late 5 5", 0, -107}, {"", 0, -100}, {"late", 1999, -104}};
        for (Object[] one : tapes) {
            with("a tape of \"" + one[0] + "\"", new Script().add(Script.some()).tape((String) one[0]).add("trim", 0));
            made = new Script().add(Script.some()).tape((String) one[0]);
            refused((Integer) one[2], "text", (Integer) one[1]);
        }
        with("a full tape", new Script().add(Script.full()).add("trim", 0));
        made = new Script().add(Script.full()).tape("late n+n");
        refused(FULL, "text", 0);
        made = new Script().add(Script.full()).tape("late n n");
        refused(-107, "text", 0);
        made = new Script().add(Script.full()).tape("late n n");
        refused(BAD, "text", 2000);
    }

    /** Whatever check answers, none wait behind it, and all else is as it was. */
    private static void checkLeavesNoneWaiting() {
        with("none waiting", new Script().add(Script.some()).add("check", 1));
        int[] two = {20, 50};
        for (int n : new int[] {0, 31, LOW, HIGH}) {
            made = new Script().add(Script.some());
            for (int v : two) made.add("tell", v);
            refused(BAD, "check", n);
        }
        with("none waiting, no image", new Script());
        made = new Script().add("tell", 1).add("tell", 2);
        refused(NO, "check", 1);
        refused(BAD, "check", 31);
    }
}
