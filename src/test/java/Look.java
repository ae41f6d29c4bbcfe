import java.util.ArrayList;
import java.util.List;

/** All that can be asked of a line, so that two of them can be held against one another. */
final class Look {
    /** So many questions are asked of one object: with what made it, no more than the document's 512 calls. */
    private static final int AT_ONCE = 60;

    private static final List<Script> QUESTIONS = questions();

    private Look() { }

    /** The answers of a line that is made anew again and again, as it is and as its image is. */
    static List<Integer> at(Script made) {
        List<Integer> seen = new ArrayList<>();
        for (int from = 0; from < QUESTIONS.size(); from += AT_ONCE) {
            List<Script> part = QUESTIONS.subList(from, Math.min(from + AT_ONCE, QUESTIONS.size()));
            ask(made.made(), part, seen);
            LineMaking kept = made.made();
            seen.add(kept.back());
            ask(kept, part, seen);
        }
        LineMaking told = made.made();
        seen.add(told.check(2));
        return seen;
    }

    private static void ask(LineMaking x, List<Script> part, List<Integer> seen) {
        for (Script question : part) seen.add(question.on(x));
    }

    private static List<Script> questions() {
        List<Script> all = new ArrayList<>();
        for (int what = 0; what < 15; what++) one(all, "count", what);
        for (int c = 0; c < 24; c++) for (int what = 0; what < 6; what++) one(all, "at", c, what);
        for (int w = 0; w < 24; w++) {
            for (int what = 0; what < 13; what++) one(all, "told", w, what);
            one(all, "through", w);
            one(all, "price", w);
            one(all, "chain", w, 1);
        }
        for (int c = -1; c < 24; c++) one(all, "best", c);
        for (String name : new String[] {"steep", "haul", "foretold", "quarrels", "out"}) one(all, name);
        for (int t = 0; t < 14; t++) for (int what = 0; what < 3; what++) one(all, "of", t, what);
        for (int key = 0; key < 4; key++) {
            one(all, "why", key);
            one(all, "rules", key, 3, 5, 7);
        }
        for (int claim = 0; claim < 20; claim++) one(all, "given", claim);
        for (int day : new int[] {0, 30, 1100, 9999}) one(all, "late", day);
        for (int i = 0; i < 8; i++) {
            one(all, "order", 9, i);
            one(all, "order", 4, i);
            one(all, "meets", 1 + 13 * i);
        }
        for (int s = 0; s < 4; s++) for (int place = 0; place < 25; place++) one(all, "read", s, place);
        // These change what they ask of, so they stand last.
        for (int gang = 0; gang < 8; gang++) one(all, "goes", gang, LineMaking.NONE);
        for (int what = 0; what < 6; what++) one(all, "rule", what, 0);
        for (int day = 0; day < 50; day++) one(all, "wet", day, 0);
        one(all, "wet", 1999, 0);
        one(all, "text", 0);
        for (int key = 0; key < 4; key++) one(all, "rules", key, 3, 5, 7);
        // What the days bring tells of dues, and of gangs and their hands.
        for (int turn = 0; turn < 4; turn++) {
            one(all, "run", 15);
            for (int w = 0; w < 24; w += 3) one(all, "told", w, 3);
            one(all, "count", 10);
        }
        all.add(new Script().text("claim 1", 0));
        for (int claim = 0; claim < 20; claim++) one(all, "given", claim);
        return all;
    }

    private static void one(List<Script> all, String name, int... args) {
        all.add(new Script().add(name, args));
    }
}
