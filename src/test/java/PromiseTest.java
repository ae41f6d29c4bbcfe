import java.util.Arrays;

/** For each promise: ordinary inputs, the edges that the document names, and wrong inputs; the numbers are worked out by hand. */
public final class PromiseTest {
    private static final int BAD = LineMaking.BAD, NO = LineMaking.NO, FULL = LineMaking.FULL, NONE = LineMaking.NONE;
    private static final int NOTHING = LineMaking.NOTHING, KIND = LineMaking.KIND, INDEX = LineMaking.INDEX, SIZE = LineMaking.SIZE;
    private static final int LOW = Integer.MIN_VALUE, HIGH = Integer.MAX_VALUE;
    private static final boolean[] TESTED = new boolean[51];
    private static int wrong = 0;

    public static void main(String[] args) {
        theLine();
        bestAndHaul();
        works();
        gangsAndDays();
        slips();
        pay();
        texts();
        faults();
        whichTextCounts();
        measuresAndClaims();
        purse();
        facesAndArches();
        whatWaits();
        surveys();
        images();
        for (int promise = 1; promise <= 50; promise++) {
            if (!TESTED[promise]) is(promise, 0, 1);
        }
        System.out.println(wrong == 0 ? "all promises hold" : wrong + " answers are not as due");
        if (wrong != 0) System.exit(1);
    }

    private static void is(int promise, int got, int want) {
        TESTED[promise] = true;
        if (got == want) return;
        wrong++;
        StackTraceElement[] trace = Thread.currentThread().getStackTrace();
        int line = Arrays.stream(trace).skip(2).findFirst().map(StackTraceElement::getLineNumber).orElse(0);
        System.out.println("promise " + promise + ", line " + line + ": answered " + got + ", due is " + want);
    }

    /** Puts a text on the tape and reads it. */
    private static int text(LineMaking x, String text, int day) {
        tape(x, text);
        return x.text(day);
    }

    private static void tape(LineMaking x, String text) {
        x.trim(0);
        for (int i = 0; i < text.length(); i += 12) x.feed(four(text, i), four(text, i + 4), four(text, i + 8));
        x.trim(text.length());
    }

    private static int four(String text, int at) {
        int v = 0;
        for (int i = at; i < at + 4; i++) v = v << 8 | (i < text.length() ? text.charAt(i) & 255 : 0);
        return v;
    }

    private static void theLine() {
        LineMaking x = new LineMaking();
        int[] counts = {8, 0, 0, 0, 0, 0, 0, 0, 0, 0, 0, 0, 0, 0, 0};
        for (int i = 0; i < counts.length; i++) is(1, x.count(i), counts[i]);
        is(1, x.at(7, 0), 50);
        is(1, x.at(7, 1), 50);
        is(1, x.at(7, 2), NONE);
        is(1, x.back(), NO);
        for (int n : new int[] {1, 25, 0, -1, LOW, HIGH}) is(2, x.chains(n), BAD);
        is(2, x.chains(24), 8);
        is(3, x.set(23, 0, 99), 50);
        is(3, x.set(23, 1, 0), 50);
        is(3, x.set(23, 2, 3), 0);
        is(3, x.set(23, 0, 0), 99);
        for (int v : new int[] {-1, 100, LOW, HIGH}) {
            is(3, x.set(0, 0, v), BAD);
            is(3, x.set(0, 1, v), BAD);
        }
        is(3, x.set(0, 2, 4), BAD);
        is(3, x.set(0, 2, -1), BAD);
        is(3, x.set(24, 0, 1), BAD);
        is(3, x.set(-1, 0, 1), BAD);
        is(3, x.set(0, 3, 1), BAD);
        is(3, x.set(0, -1, 1), BAD);
        is(5, x.at(23, 2), NONE);
        is(4, x.bore(23), 3);
        is(4, x.bore(24), BAD);
        is(4, x.bore(-1), BAD);
        is(5, x.at(23, 2), 3);
        is(3, x.set(23, 2, 1), 3);
        is(5, x.at(23, 2), 1);
        is(3, x.set(23, 0, 20), 0);
        is(5, x.at(23, 3), 20);
        is(3, x.set(23, 1, 50), 0);
        is(5, x.at(23, 3), -30);
        is(5, x.at(23, 4), 0);
        is(5, x.at(23, 5), 0);
        is(5, x.at(23, 6), BAD);
        is(5, x.at(23, -1), BAD);
        is(5, x.at(24, 0), BAD);
        is(2, x.chains(24), 24);
        is(5, x.at(23, 0), 50);
        is(5, x.at(23, 2), NONE);
        is(2, x.chains(2), 24);
        is(5, x.at(2, 0), BAD);
        x.work(0, 0, 1);
        is(2, x.chains(1), BAD);
        is(2, x.chains(3), NO);
        is(50, x.count(0), 2);
        int[] first = {2, 2, 3, 9, 5, 999};
        int[] highest = {9, 9, 9, 99, 99, 1999};
        for (int i = 0; i < 6; i++) {
            is(6, x.rule(i, highest[i]), first[i]);
            is(6, x.rule(i, highest[i] + 1), BAD);
            is(6, x.rule(i, -1), BAD);
            is(6, x.rule(i, 0), highest[i]);
        }
        is(6, x.rule(6, 0), BAD);
        is(6, x.rule(-1, 0), BAD);
        is(50, x.count(15), BAD);
        is(50, x.count(-1), BAD);
    }

    private static void bestAndHaul() {
        LineMaking x = new LineMaking();
        x.chains(4);
        x.set(0, 1, 53);
        is(7, x.steep(), 1);
        x.set(1, 1, 51);
        is(7, x.steep(), 0);
        x.rule(0, 0);
        is(7, x.steep(), 2);
        x.set(3, 1, 0);
        is(7, x.steep(), 3);
        is(8, x.best(-2), BAD);
        is(8, x.best(4), BAD);
        // Without a cost all levels are as good: the first are all 0.
        LineMaking y = new LineMaking();
        y.chains(2);
        y.rule(1, 0);
        y.rule(2, 0);
        is(8, y.best(-1), 0);
        is(8, y.best(0), 0);
        is(8, y.best(1), 0);
        // Cuts and fills cost the same, slope 2, grounds 60 and 50: 8 yards too steep; the first chain takes the lesser level.
        y.rule(1, 2);
        y.rule(2, 2);
        y.set(0, 0, 60);
        is(8, y.best(-1), 16);
        is(8, y.best(0), 52);
        is(8, y.best(1), 50);
        is(5, y.at(0, 1), 50);
        is(9, y.lay(), 16);
        is(5, y.at(0, 1), 52);
        is(5, y.at(1, 1), 50);
        is(7, y.steep(), 0);
        // 8 yards there at chain 0, none wanted: spoilt at 5.
        is(10, y.haul(), 40);
        y.set(1, 0, 40);
        // 10 wanted beside it: 8 go for 1 each, 2 are borrowed at 9.
        is(10, y.haul(), 26);
        y.rule(3, 0);
        y.rule(4, 0);
        is(10, y.haul(), 0);
        // Hauling 8 costs 8, and borrowing all 10 with spoiling all 8 costs less at 0 and 0 only.
        y.rule(3, 1);
        is(10, y.haul(), 10);
        // The highest level may be laid.
        LineMaking high = new LineMaking();
        high.set(0, 0, 99);
        high.rule(0, 9);
        high.chains(2);
        high.set(0, 0, 99);
        high.set(1, 0, 99);
        is(8, high.best(-1), 0);
        is(8, high.best(1), 99);
        LineMaking z = new LineMaking();
        z.chains(24);
        z.set(0, 0, 60);
        z.set(23, 0, 40);
        is(10, z.haul(), 140);
        z.rule(3, 99);
        z.rule(4, 99);
        is(10, z.haul(), 230);
        z.set(12, 0, 45);
        // 5 of the 10 stop half way, 5 go on, 5 are borrowed.
        is(10, z.haul(), 60 + 115 + 495);
    }

    private static void works() {
        LineMaking x = new LineMaking();
        for (int kind : new int[] {5, 7, -1, LOW}) is(11, x.work(kind, 0, 1), BAD);
        is(11, x.work(0, -1, 1), BAD);
        is(11, x.work(0, 8, 1), BAD);
        is(11, x.work(0, 0, 0), BAD);
        is(11, x.work(0, 0, 10000), BAD);
        int[] kinds = {0, 1, 2, 3, 4, 6};
        for (int i = 0; i < 6; i++) is(11, x.work(kinds[i], 1, 9999 - i), i);
        is(5, x.at(1, 4), 6);
        // Rates by strata (rock, gravel, clay, sand) and wet.
        int[][] rates = {
            {2, 1, 2, 1, 1, 4}, {2, 3, 2, 2, 1, 4}, {2, 2, 2, 1, 1, 4}, {2, 3, 2, 2, 1, 4}};
        int[][] worths = {
            {5, 10, 5, 40, 9, 2}, {5, 5, 5, 20, 9, 2}, {5, 5, 5, 20, 9, 2}, {5, 5, 5, 20, 9, 2}};
        for (int stratum = 0; stratum < 4; stratum++) {
            x.set(1, 2, stratum);
            for (int w = 0; w < 6; w++) {
                is(12, x.told(w, 7), rates[stratum][w]);
                is(12, x.told(w, 8), worths[stratum][w]);
                is(27, x.price(w), worths[stratum][w]);
            }
        }
        x.set(1, 2, 2);
        x.wet(0, 4);
        is(12, x.told(2, 7), 2);
        x.wet(0, 5);
        is(12, x.told(2, 7), 1);
        x.wet(0, 6);
        is(12, x.told(1, 7), 2);
        is(12, x.told(3, 7), 1);
        x.wet(0, 7);
        is(12, x.told(1, 7), 0);
        is(12, x.told(3, 7), 0);
        is(12, x.told(4, 7), 1);
        x.wet(0, 8);
        is(12, x.told(4, 7), 0);
        is(12, x.told(0, 7), 2);
        is(12, x.told(5, 7), 4);
        is(12, x.told(0, 13), BAD);
        is(12, x.told(0, -1), BAD);
        is(12, x.told(6, 0), BAD);
        is(12, x.told(-1, 0), BAD);
        int[][] under = {{0}, {0, 1}, {0, 2}, {0, 1, 3}, {0, 4}, {0, 6}};
        for (int w = 0; w < 6; w++) {
            for (int kind = 0; kind < 7; kind++) {
                int asked = kind;
                boolean fits = Arrays.stream(under[w]).anyMatch(k -> k == asked);
                is(13, x.as(w, kind), fits ? 9999 - w : KIND);
            }
        }
        is(13, x.as(6, 0), BAD);
        is(13, x.as(-1, 0), BAD);
        is(13, x.as(0, 7), BAD);
        is(13, x.as(0, -1), BAD);
        is(14, x.ahead(0, 16777215), 0);
        is(12, x.told(0, 5), 16777215);
        is(14, x.ahead(0, 16777216), BAD);
        is(14, x.ahead(0, -1), BAD);
        is(14, x.ahead(6, 0), BAD);
        is(14, x.ahead(0, 0), 16777215);
        is(15, x.days(0, 99), 1);
        is(15, x.days(0, 100), BAD);
        is(15, x.days(0, 0), BAD);
        is(15, x.days(6, 1), BAD);
        is(12, x.told(0, 6), 99);
        is(27, x.price(6), BAD);
        is(27, x.price(-1), BAD);
        for (int i = 6; i < 24; i++) is(11, x.work(0, 0, 1), i);
        is(11, x.work(0, 0, 1), FULL);
        is(11, x.work(5, 0, 1), BAD);
        is(50, x.count(1), 24);
    }

    private static void gangsAndDays() {
        LineMaking x = new LineMaking();
        is(16, x.gang(0), BAD);
        is(16, x.gang(100), BAD);
        is(17, x.goes(0, NONE), BAD);
        is(16, x.gang(99), 0);
        is(16, x.gang(10), 1);
        is(17, x.goes(0, 0), BAD);
        x.work(0, 0, 100);
        x.work(0, 0, 5);
        is(17, x.goes(2, 0), BAD);
        is(17, x.goes(-1, 0), BAD);
        is(17, x.goes(0, 2), BAD);
        is(17, x.goes(0, -1), BAD);
        is(17, x.goes(0, 0), NONE);
        is(17, x.goes(0, 0), 0);
        is(17, x.goes(1, 0), NO);
        is(17, x.goes(1, 1), NONE);
        is(12, x.told(1, 4), 1);
        // The gang of the lesser number goes first, so what waits for a later one waits a day more.
        x.ahead(0, 2);
        is(19, x.run(2), 2);
        is(12, x.told(0, 3), 0);
        is(12, x.told(1, 3), 4);
        is(19, x.run(1), 3);
        is(12, x.told(1, 3), 5);
        is(12, x.told(0, 3), 0);
        is(50, x.count(2), 1);
        x.run(1);
        is(12, x.told(0, 3), 19);
        // And a work whose turn comes behind the one that it waits for goes on the same day.
        LineMaking y = new LineMaking();
        y.work(0, 0, 1);
        y.work(0, 0, 9);
        y.gang(10);
        y.gang(10);
        y.goes(0, 0);
        y.goes(1, 1);
        y.ahead(1, 1);
        y.run(1);
        is(12, y.told(1, 3), 2);
        // One ahead that there is not is never through; itself neither.
        y.ahead(1, 4);
        y.run(1);
        is(12, y.told(1, 3), 2);
        y.ahead(1, 2);
        y.run(1);
        is(12, y.told(1, 3), 2);
        y.work(0, 0, 1);
        y.ahead(1, 4);
        is(17, y.goes(0, 2), 0);
        y.run(1);
        is(12, y.told(1, 3), 4);
        is(17, y.goes(1, NONE), 1);
        is(12, y.told(1, 4), NONE);
        for (int i = 2; i < 8; i++) is(16, x.gang(1), i);
        is(16, x.gang(1), FULL);
        is(16, x.gang(0), BAD);
        is(18, x.wet(1999, 9), 0);
        is(18, x.wet(1999, 0), 9);
        is(18, x.wet(2000, 0), BAD);
        is(18, x.wet(-1, 0), BAD);
        is(18, x.wet(0, 10), BAD);
        is(18, x.wet(0, -1), BAD);
        is(19, x.run(0), BAD);
        is(19, x.run(61), BAD);
        LineMaking z = new LineMaking();
        for (int i = 1; i <= 33; i++) is(19, z.run(60), 60 * i);
        is(19, z.run(20), FULL);
        is(19, z.run(61), BAD);
        is(19, z.run(19), 1999);
        is(19, z.run(1), FULL);
        is(50, z.count(14), 1999);
    }

    private static void slips() {
        // Depths at the edge of what stands: gravel 20, clay 8, sand 12.
        int[] stands = {99, 20, 8, 12};
        for (int stratum = 1; stratum < 4; stratum++) {
            LineMaking x = new LineMaking();
            x.set(0, 2, stratum);
            x.set(0, 0, 50 + stands[stratum]);
            x.bore(0);
            x.work(1, 0, 100);
            x.gang(10);
            for (int d = 0; d < 50; d++) x.wet(d, 9);
            int edge = stratum == 2 ? 4 : 6;
            x.wet(2, edge);
            x.wet(3, edge + 1);
            x.run(1);
            is(20, x.foretold(), 0);
            x.set(0, 0, 51 + stands[stratum]);
            is(20, x.foretold(), 1);
            x.run(1);
            is(50, x.count(3), 0);
            x.measure(0, 0, 0);
            x.goes(0, 0);
            // Wet no more than it bears: none slips.
            x.run(1);
            is(12, x.told(0, 3) > 0 ? 1 : 0, 1);
            is(50, x.count(3), 0);
            x.run(1);
            is(50, x.count(3), 1);
            is(12, x.told(1, 2), stands[stratum] + 1);
            is(12, x.told(1, 0), 5);
            is(13, x.as(1, 1), stands[stratum] + 1);
            is(13, x.as(1, 3), KIND);
            is(12, x.told(1, 8), 2);
            is(5, x.at(0, 5), 1);
            is(20, x.foretold(), 0);
            x.run(1);
            is(50, x.count(3), 1);
        }
        // Rock stands, however deep; one yard done is enough in sand.
        LineMaking r = new LineMaking();
        for (int i = 0; i < 2; i++) {
            r.set(i, 0, 99);
            r.set(i, 1, 0);
            r.set(i, 2, 3 * i);
            r.bore(i);
            r.work(1, i, 1);
            r.gang(99);
            r.goes(i, i);
        }
        is(20, r.foretold(), 2);
        r.wet(0, 9);
        r.run(1);
        is(5, r.at(0, 5), 0);
        is(5, r.at(1, 5), 1);
        is(12, r.told(2, 2), 99);
        LineMaking y = new LineMaking();
        for (int i = 0; i < 24; i++) y.work(i < 2 ? 1 : 3, i < 2 ? i : 2, 50);
        for (int i = 0; i < 3; i++) {
            y.set(i, 2, 2);
            y.set(i, 0, 99);
            y.set(i, 1, 0);
            y.gang(99);
            y.goes(i, i);
        }
        is(20, y.foretold(), 0);
        y.bore(1);
        y.bore(2);
        is(20, y.foretold(), 2);
        y.wet(0, 5);
        y.run(1);
        is(50, y.count(3), 0);
        is(50, y.count(1), 24);
    }

    private static void pay() {
        LineMaking x = new LineMaking();
        x.work(1, 0, 100);
        x.work(6, 1, 100);
        x.gang(30);
        x.gang(20);
        x.goes(0, 0);
        x.goes(1, 1);
        x.measure(0, 0, 41);
        x.measure(0, 1, 50);
        x.measure(1, 0, 99);
        x.measure(1, 1, 3);
        is(29, x.quarrels(), 2);
        x.due(27, 1000);
        x.run(27);
        is(50, x.count(10), 0);
        x.run(1);
        // 41 yards at 10, less 41; 3 yards at 2, less 0 (of 0.6).
        is(50, x.count(10), 1000 - 369 - 6);
        is(50, x.count(11), 41);
        is(12, x.told(0, 12), 41);
        is(12, x.told(1, 12), 3);
        x.measure(0, 0, 30);
        x.measure(1, 1, 13);
        is(25, text(x, "price k*100-d", 56), 0);
        is(25, text(x, "retain (k=6)*500+0*y", 30), 1);
        x.run(28);
        // Retained whole, held at 100 hundredths.
        is(50, x.count(10), 625);
        is(50, x.count(11), 61);
        is(12, x.told(0, 12), 41);
        is(12, x.told(1, 12), 13);
        x.measure(0, 0, 43);
        x.measure(0, 1, 43);
        x.set(0, 0, 57);
        x.run(28);
        is(50, x.count(10), 625 - 2 * 93);
        is(50, x.count(11), 61);
        is(27, x.price(0), 93);
        is(27, x.price(1), 600);
        x.set(0, 0, 99);
        x.set(0, 1, 0);
        is(27, x.price(0), 1);
        x.measure(1, 1, 14);
        x.measure(1, 0, 14);
        x.goes(0, NONE);
        is(29, x.quarrels(), 0);
    }

    private static void texts() {
        LineMaking x = new LineMaking();
        for (int i = 1; i <= 8; i++) is(21, x.feed(-1, 0, HIGH), 12 * i);
        is(21, x.feed(0, 0, 0), FULL);
        is(50, x.count(13), 96);
        is(22, x.trim(97), BAD);
        is(22, x.trim(-1), BAD);
        is(22, x.trim(85), 85);
        is(21, x.feed(0, 0, 0), FULL);
        is(22, x.trim(84), 84);
        is(21, x.feed(0, 0, 0), 96);
        is(23, x.text(-1), BAD);
        is(50, x.count(13), 0);
        is(22, x.trim(1), BAD);
        is(23, text(x, "late n*n/(n-3)+!n*7", 1999), 0);
        is(24, x.of(0, 0), 2);
        is(24, x.of(0, 1), 1999);
        is(24, x.of(0, 2), 6);
        is(24, x.of(0, 3), BAD);
        is(24, x.of(0, -1), BAD);
        is(24, x.of(1, 0), BAD);
        is(24, x.of(-1, 0), BAD);
        is(25, x.why(2), NONE);
        is(25, x.why(4), BAD);
        is(25, x.why(-1), BAD);
        // Without a text.
        is(26, x.rules(0, 9, 9, 1000), 999);
        is(26, x.rules(0, 9, 9, -1), 0);
        is(26, x.rules(1, 9, 9, 9), 10);
        is(26, x.rules(2, 10000, 9, 9), 99999);
        is(26, x.rules(2, -1, 9, 9), 0);
        is(26, x.rules(3, 9, 4, 9), 0);
        is(26, x.rules(3, 9, 5, 9), 1);
        is(26, x.rules(4, 0, 0, 0), BAD);
        is(26, x.rules(-1, 0, 0, 0), BAD);
        String[] claims = {"c*w", "c/w", "c-w-1", "c<w", "c=w", "c>w", "c&w", "c|w", "!c", "c+w*2", "(c+w)*2", "c<w&w<c|1",
            "c<w+1=1", "!c+1", "!(c+1)", "!!c", "9999*9999*9999", "c-w*c/w", "0-7/2", "(0-7)/2", "2&4|0", "1=1&2", "w", "0012", "1|0&0", "0&0|5", "1-2-3", "100/10/5", "7/2*2"};
        int[][] due = {
            // c = 3, w = 2, then c = 0, w = 0
            {6, 0}, {1, 0}, {0, -1}, {0, 0}, {0, 1}, {1, 0}, {1, 0}, {1, 0}, {0, 1}, {7, 0}, {10, 0}, {1, 1},
            {BAD, BAD}, {1, 2}, {0, 0}, {1, 0}, (new int[] {9999 * 9999 * 9999, 9999 * 9999 * 9999}), {0, 0}, {-3, -3}, {-3, -3},
            {1, 1}, {1, 1}, {2, 0}, {12, 12}, {1, 1}, {1, 1}, {-4, -4}, {2, 2}, {6, 6}};
        int many = 1;
        for (int i = 0; i < claims.length; i++) {
            if (due[i][0] == BAD) {
                is(23, text(x, "claim " + claims[i], 0), -111);
                continue;
            }
            LineMaking y = new LineMaking();
            is(23, text(y, "claim " + claims[i], 0), 0);
            is(26, y.rules(3, 3, 2, 99), due[i][0]);
            is(26, y.rules(3, 0, 0, 99), due[i][1]);
            many++;
        }
        is(23, many, claims.length);
        LineMaking z = new LineMaking();
        text(z, "price k-d*w", 0);
        text(z, "retain y-k", 0);
        text(z, "late n-5", 0);
        is(26, z.rules(0, 100, 3, 5), 85);
        is(26, z.rules(0, 1, 1, 5), 0);
        is(26, z.rules(0, 5000, 1, 5), 999);
        is(26, z.rules(1, 5, 30, 0), 25);
        is(26, z.rules(1, 5, 300, 0), 100);
        is(26, z.rules(1, 5, 3, 0), 0);
        is(26, z.rules(2, 4, 0, 0), 0);
        is(26, z.rules(2, HIGH, 0, 0), 99999);
        text(z, "claim c/(w-1)", 0);
        is(26, z.rules(3, LOW, 0, 0), LOW);
        is(26, z.rules(3, 7, 1, 0), 0);
    }

    private static void faults() {
        LineMaking x = new LineMaking();
        Object[][] faults = {
            {"", 0}, {"   ", 3}, {"price", 5}, {"price   ", 8}, {"  prices k", 2}, {"Price k", 0}, {"arice k", 0}, {"pricf k", 0}, {"pric e k", 0}, {"pricek", 0},
            {"price5", 5}, {"price 5", -1}, {"price(5)", -1}, {"price!k", -1}, {" price ( k ) ", -1}, {"price +5", 6},
            {"price k5", 7}, {"price 5k", 7}, {"price 5 5", 8}, {"price k k", 8}, {"price kd", 6}, {"price y", 6}, {"price n", 6},
            {"price c", 6}, {"retain w", 7}, {"retain d", 7}, {"retain k+y", -1}, {"late k", 5}, {"late w", 5}, {"claim k", 6},
            {"claim n", 6}, {"price 12345", 6}, {"price 00001", 6}, {"price 1234", -1}, {"price k<d<w", 9}, {"price k<d=w", 9},
            {"price k<(d<w)", -1}, {"price (k<d)<w", -1}, {"price k<d&d<w", -1}, {"price k+d<w*2|k", -1}, {"price k)", 7},
            {"price ()", 7}, {"price (k", 8}, {"price (k ", 9}, {"price k+", 8}, {"price k + ", 10}, {"price !", 7}, {"price k!", 7},
            {"price k(d)", 7}, {"price k=", 8}, {"price k==d", 8}, {"price -k", 6}, {"price k - -d", 10}, {"price k%d", 7},
            {"price k\td", 7}, {"price k\u0000", 7}, {"price \u00e9", 6}, {"price price", 6}, {"price k price", 8}, {"5", 0}, {"(", 0},
            {"late ((((((((n))))))))", -1}, {"late (((((((((n)))))))))", 13}, {"late !!!!!!!!n", -1}, {"late !!!!!!!!!n", 13},
            {"late !!!!(!!!!(!n))", 15}, {"late !!!!(!!!!(n)) + !!!!!!!!n", -1}, {"late (((((((n)))))))*((((((((n))))))))", -1},
            {"late !(!(!(!(!(!(!(!(n))))))))", -1}, {"late !(!(!(!(!(!(!(!(!n))))))))", 21}, {"late (!n)*!!!!!!!!n", -1},
            {"late((((((((!!!!!!!!n))))))))", -1}, {"late n & | n", 9}, {"late n <> n", 8},
        };
        for (Object[] one : faults) {
            LineMaking y = new LineMaking();
            int place = (Integer) one[1];
            is(23, text(y, (String) one[0], 0), place < 0 ? 0 : -100 - place);
            is(50, y.count(13), 0);
            is(50, y.count(5), place < 0 ? 1 : 0);
        }
        for (int i = 0; i < 14; i++) is(23, text(x, "late 5", i), i);
        is(23, text(x, "late 5 5", 0), -107);
        is(23, text(x, "late 5", 2000), BAD);
        is(23, text(x, "late ", 2000), BAD);
        is(23, text(x, "late 5", 0), FULL);
        is(50, x.count(5), 14);
        is(50, x.count(13), 0);
        // The longest tape that is a text.
        LineMaking z = new LineMaking();
        is(23, text(z, "late 1" + "+1".repeat(45), 0), 0);
        is(24, z.of(0, 2), 46);
        is(26, z.rules(2, 0, 0, 0), 46);
    }

    private static void whichTextCounts() {
        LineMaking x = new LineMaking();
        text(x, "late 1", 3);
        text(x, "late 2", 5);
        text(x, "late 3", 3);
        text(x, "retain 7", 0);
        is(25, x.why(2), NONE);
        is(25, x.why(1), 3);
        is(26, x.rules(2, 2, 0, 0), 20);
        x.run(3);
        is(25, x.why(2), 2);
        is(26, x.rules(2, 2, 0, 0), 3);
        x.run(1);
        is(25, x.why(2), 2);
        x.run(1);
        is(25, x.why(2), 1);
        is(32, x.late(0), 2);
        text(x, "late 4", 5);
        is(25, x.why(2), 4);
        text(x, "late 5", 4);
        is(25, x.why(2), 4);
        is(25, x.why(0), NONE);
        is(25, x.why(3), NONE);
    }

    private static void measuresAndClaims() {
        LineMaking x = new LineMaking();
        x.work(0, 0, 10);
        is(28, x.measure(0, 0, 9999), 0);
        is(28, x.measure(0, 0, 10000), BAD);
        is(28, x.measure(0, 1, -1), BAD);
        is(28, x.measure(0, 2, 1), BAD);
        is(28, x.measure(0, -1, 1), BAD);
        is(28, x.measure(1, 0, 1), BAD);
        is(29, x.quarrels(), 1);
        is(28, x.measure(0, 1, 9999), 0);
        is(29, x.quarrels(), 0);
        is(12, x.told(0, 9), 9999);
        is(12, x.told(0, 10), 9999);
        is(12, x.told(0, 11), 0);
        is(28, x.measure(0, 0, 0), 9999);
        is(30, x.claim(-1, 0, 0), BAD);
        is(30, x.claim(5, 4, 0), BAD);
        is(30, x.claim(0, 2000, 0), BAD);
        is(30, x.claim(0, 0, -1), BAD);
        is(30, x.claim(0, 0, 4), BAD);
        is(31, x.given(0), BAD);
        is(30, x.claim(10, 19, 1), 0);
        is(30, x.claim(15, 15, 2), 1);
        is(30, x.claim(0, 1999, 2), 2);
        x.wet(15, 9);
        x.wet(16, 5);
        x.wet(17, 4);
        x.wet(1999, 9);
        is(31, x.given(0), 2);
        is(31, x.given(1), 0);
        is(31, x.given(2), 1);
        is(31, x.given(3), BAD);
        is(31, x.given(-1), BAD);
        // A text not yet in force does not count, though the days that are claimed are behind it.
        is(23, text(x, "claim c=2", 1), 0);
        is(31, x.given(0), 2);
        x.run(1);
        is(31, x.given(0), 0);
        is(31, x.given(1), 1);
        is(31, x.given(2), 1999);
        is(32, x.late(9999), 10 * (9999 - 999 - 2000));
        is(32, x.late(10000), BAD);
        is(32, x.late(-1), BAD);
        is(32, x.late(0), 0);
        is(23, text(x, "claim w>8", 1), 1);
        is(32, x.late(1001), 0);
        is(32, x.late(1002), 10);
        x.rule(5, 0);
        is(32, x.late(0), 0);
        is(32, x.late(3), 10);
        is(23, text(x, "late 50-n", 1), 2);
        is(32, x.late(0), 50);
        is(32, x.late(12), 40);
        is(32, x.late(100), 0);
        for (int i = 3; i < 20; i++) is(30, x.claim(0, 0, 0), i);
        is(30, x.claim(0, 0, 0), FULL);
        is(30, x.claim(0, 0, 4), BAD);
    }

    private static void purse() {
        LineMaking x = new LineMaking();
        is(33, x.call(0), BAD);
        is(33, x.call(100000), BAD);
        is(33, x.call(99999), 99999);
        is(33, x.call(1), 100000);
        is(35, x.out(), NONE);
        LineMaking y = new LineMaking();
        y.run(10);
        is(34, y.due(9, 1), BAD);
        is(34, y.due(2000, 1), BAD);
        is(34, y.due(10, 100000), BAD);
        is(34, y.due(10, -100000), BAD);
        is(34, y.due(409, -1), 0);
        is(35, y.out(), 409);
        y.due(409, 1);
        is(35, y.out(), NONE);
        y.due(410, -1);
        is(35, y.out(), NONE);
        y.run(1);
        is(35, y.out(), 410);
        is(34, y.due(11, 0), 3);
        is(34, y.due(11, -5), 4);
        is(34, y.due(12, 5), 5);
        is(35, y.out(), 11);
        y.run(1);
        is(50, y.count(10), -5);
        // 5 come on the open day: its end is not below 0.
        is(35, y.out(), 410);
        y.run(1);
        is(50, y.count(10), 0);
        for (int i = 6; i < 20; i++) is(34, y.due(1999, -99999), i);
        is(34, y.due(1999, 0), FULL);
        is(34, y.due(0, 0), BAD);
        is(50, y.count(7), 20);
        LineMaking z = new LineMaking();
        z.due(0, -1);
        z.run(1);
        is(35, z.out(), 1);
    }

    private static void facesAndArches() {
        LineMaking x = new LineMaking();
        is(37, x.meets(0), BAD);
        is(37, x.meets(10000), BAD);
        is(37, x.meets(1), NONE);
        is(36, x.face(-1, 1), BAD);
        is(36, x.face(2000, 1), BAD);
        is(36, x.face(0, 0), BAD);
        is(36, x.face(0, 100), BAD);
        is(36, x.face(1999, 1), 0);
        is(37, x.meets(1), 1999);
        is(37, x.meets(9999), 11997);
        is(36, x.face(10, 99), 1);
        is(37, x.meets(99), 10);
        is(37, x.meets(100), 11);
        for (int i = 2; i < 6; i++) is(36, x.face(11, 50), i);
        is(36, x.face(0, 1), FULL);
        is(36, x.face(0, 0), BAD);
        is(37, x.meets(99 + 99 + 200), 11);
        is(37, x.meets(99 + 99 + 201), 12);
        is(39, x.order(9, 0), NONE);
        is(39, x.order(-1, 0), BAD);
        is(39, x.order(10, 0), BAD);
        is(39, x.order(0, -1), BAD);
        is(38, x.arch(0), BAD);
        is(38, x.arch(10), BAD);
        is(38, x.arch(9), 0);
        // One arch alone pushes no pier: the outer ends hold.
        is(39, x.order(0, 0), 0);
        is(39, x.order(0, 1), NONE);
        is(38, x.arch(4), 1);
        is(38, x.arch(9), 2);
        // 5 at least between the first two; arch 1 stands first, or a pier is pushed by 9.
        is(39, x.order(8, 0), 1);
        is(39, x.order(8, 1), 0);
        is(39, x.order(8, 2), 2);
        is(39, x.order(5, 0), 1);
        is(39, x.order(4, 0), NONE);
        is(39, x.order(9, 0), 0);
        is(39, x.order(9, HIGH), NONE);
        for (int i = 3; i < 8; i++) is(38, x.arch(1), i);
        is(38, x.arch(1), FULL);
        is(38, x.arch(0), BAD);
        // Now arch 2 cannot stand beside arch 3 with less than 8, and is last but those that bear nothing.
        is(39, x.order(7, 0), NONE);
        is(39, x.order(8, 0), 1);
        is(39, x.order(8, 2), 3);
        is(39, x.order(8, 3), 2);
        is(39, x.order(8, 7), 7);
    }

    private static void whatWaits() {
        LineMaking x = new LineMaking();
        is(40, x.through(0), BAD);
        is(41, x.chain(0, 0), BAD);
        for (int i = 0; i < 5; i++) x.work(0, 0, 1);
        is(40, x.through(4), 1);
        is(40, x.through(5), BAD);
        is(40, x.through(-1), BAD);
        is(41, x.chain(4, 0), 4);
        is(41, x.chain(4, 1), NONE);
        is(41, x.chain(4, -1), BAD);
        is(41, x.chain(5, 0), BAD);
        is(41, x.chain(4, HIGH), NONE);
        x.ahead(0, 2 + 4 + 8);
        x.days(2, 4);
        x.days(3, 4);
        x.ahead(3, 16);
        x.ahead(2, 16);
        is(40, x.through(0), 6);
        is(41, x.chain(0, 1), 2);
        is(41, x.chain(0, 2), 4);
        is(41, x.chain(0, 3), NONE);
        x.days(3, 5);
        is(40, x.through(0), 7);
        is(41, x.chain(0, 1), 3);
        x.ahead(4, 16);
        is(40, x.through(4), NONE);
        is(40, x.through(0), NONE);
        is(41, x.chain(0, 0), NONE);
        is(40, x.through(1), 1);
        x.ahead(4, 32);
        is(40, x.through(0), NONE);
        is(40, x.through(4), NONE);
        x.work(0, 0, 1);
        is(40, x.through(4), 2);
        x.ahead(5, 1);
        is(40, x.through(5), NONE);
        is(40, x.through(2), NONE);
        LineMaking y = new LineMaking();
        for (int i = 0; i < 24; i++) y.work(0, 0, 1);
        for (int i = 0; i < 23; i++) y.ahead(i, 1 << i + 1);
        for (int i = 0; i < 24; i++) y.days(i, 99);
        is(40, y.through(0), 24 * 99);
        is(41, y.chain(0, 23), 23);
        is(41, y.chain(0, 24), NONE);
    }

    private static void surveys() {
        LineMaking x = new LineMaking();
        for (int s : new int[] {-1, 4, LOW, HIGH}) {
            is(42, x.survey(s, 0, -1), BAD);
            is(43, x.note(s, 0, 0), BAD);
            is(44, x.read(s, 0), BAD);
            is(45, x.copy(s, 0, 0, 0, 0), BAD);
            is(45, x.copy(0, 0, s, 0, 0), BAD);
        }
        is(42, x.survey(0, -2, -1), BAD);
        is(42, x.survey(0, 2, -1), BAD);
        is(42, x.survey(0, 0, 25), BAD);
        is(42, x.survey(0, 1, -1), SIZE);
        is(42, x.survey(0, -1, LOW), 0);
        is(43, x.note(0, 0, 1), NOTHING);
        is(44, x.read(0, 0), NOTHING);
        is(42, x.survey(0, 0, 0), 0);
        is(44, x.read(0, 0), INDEX);
        is(45, x.copy(0, 0, 0, 0, 0), 0);
        is(45, x.copy(0, 1, 0, 0, 0), INDEX);
        is(42, x.survey(0, 0, 24), 24);
        is(44, x.read(0, 23), 0);
        is(44, x.read(0, 24), INDEX);
        is(44, x.read(0, -1), INDEX);
        is(43, x.note(0, 24, 0), INDEX);
        is(43, x.note(0, 0, 100001), BAD);
        is(43, x.note(0, 0, -100001), BAD);
        is(43, x.note(0, 0, NONE + 1), BAD);
        is(43, x.note(0, 0, -100000), 1);
        is(43, x.note(0, 23, 100000), 1);
        for (int i = 1; i < 23; i++) is(43, x.note(0, i, NONE), 1);
        // -100000 + 200000 * 11 / 23 = -4347.8, cut towards 0.
        is(44, x.read(0, 11), -4347);
        is(44, x.read(0, 12), 4347);
        x.note(0, 0, NONE);
        is(44, x.read(0, 0), 100000);
        is(44, x.read(0, 11), 100000);
        x.note(0, 23, NONE);
        is(44, x.read(0, 11), KIND);
        is(42, x.survey(1, 1, 3), 3);
        is(43, x.note(1, 0, NONE), KIND);
        is(43, x.note(1, 3, NONE), INDEX);
        is(43, x.note(1, 0, 32768), 1);
        is(44, x.read(1, 0), -32768);
        is(43, x.note(1, 1, -1), 1);
        is(44, x.read(1, 1), -1);
        is(43, x.note(1, 2, LOW + 5), 1);
        is(44, x.read(1, 2), 5);
        is(45, x.copy(0, 0, 1, 0, 0), KIND);
        is(45, x.copy(0, 0, 2, 0, 0), NOTHING);
        is(45, x.copy(3, -5, 1, 0, 0), NOTHING);
        is(45, x.copy(1, 0, 1, 0, -1), INDEX);
        is(45, x.copy(1, 3, 1, 0, 0), 0);
        is(45, x.copy(1, 0, 1, 3, 0), 0);
        is(45, x.copy(1, 4, 1, 0, 0), INDEX);
        is(45, x.copy(1, 0, 1, 4, 0), INDEX);
        is(45, x.copy(1, 3, 1, 0, 1), INDEX);
        is(45, x.copy(1, HIGH, 1, 0, HIGH), INDEX);
        is(45, x.copy(1, 1, 1, HIGH, HIGH), INDEX);
        is(45, x.copy(1, 0, 1, 1, 2), 2);
        is(44, x.read(1, 0), -32768);
        is(44, x.read(1, 1), -32768);
        is(44, x.read(1, 2), -1);
        x.survey(2, 1, 2);
        is(45, x.copy(1, 1, 2, 0, 2), 2);
        is(44, x.read(2, 1), -1);
        x.note(1, 2, 9);
        is(44, x.read(2, 1), -1);
        is(45, x.copy(2, 0, 2, 1, 2), INDEX);
        // No number is copied as no number, not as what it is read as.
        x.survey(0, 0, 3);
        x.note(0, 1, NONE);
        x.note(0, 2, 9);
        x.survey(3, 0, 2);
        x.note(3, 0, 50);
        is(45, x.copy(0, 1, 3, 1, 1), 1);
        is(44, x.read(0, 1), 4);
        is(44, x.read(3, 1), 50);
    }

    private static void images() {
        LineMaking x = new LineMaking();
        for (int i = 1; i <= 60; i++) is(46, x.tell(HIGH), i);
        is(46, x.tell(0), FULL);
        is(50, x.count(12), 60);
        is(47, x.check(1), NO);
        is(50, x.count(12), 0);
        x.tell(1);
        is(47, x.check(0), BAD);
        is(50, x.count(12), 0);
        is(47, x.check(31), BAD);
        is(49, x.back(), NO);
        x.work(0, 0, 25);
        x.gang(10);
        x.goes(0, 0);
        x.due(1, 7);
        x.run(1);
        is(48, x.keep(), 1);
        // From day 1 on: 4 done and 7 coins, then 6 and 7.
        int[] told = {4, 7, 6, 7};
        for (int v : told) x.tell(v);
        is(47, x.check(2), 0);
        for (int v : told) x.tell(v);
        is(47, x.check(1), 3);
        for (int v : told) x.tell(v);
        is(47, x.check(3), 5);
        x.tell(4);
        x.tell(8);
        is(47, x.check(1), 2);
        is(47, x.check(1), 1);
        // All but surveys, what waits and the tape goes back, again and again.
        for (int turn = 0; turn < 2; turn++) {
            change(x);
            x.survey(0, 1, turn + 1);
            x.tell(5);
            x.feed(1, 2, 3);
            is(49, x.back(), 1);
            is(50, x.count(14), 1);
            int[] counts = {8, 1, 0, 0, 1, 0, 0, 1, 0, 0, 0, 0, turn + 1, 12 * turn + 12, 1};
            for (int i = 0; i < counts.length; i++) is(49, x.count(i), counts[i]);
            is(49, x.told(0, 3), 2);
            is(49, x.told(0, 4), 0);
            is(49, x.told(0, 5), 0);
            is(49, x.told(0, 6), 1);
            is(49, x.told(0, 9), 0);
            is(49, x.at(3, 0), 50);
            is(49, x.at(3, 1), 50);
            is(49, x.at(3, 2), NONE);
            is(49, x.wet(70, 0), 0);
            is(49, x.rule(0, 2), 2);
            is(49, x.rule(5, 999), 999);
            is(44, x.read(0, turn), 0);
        }
        behindTheLastDay();
        cleanAgain();
        textsInImages();
    }

    /** A work made anew behind an image is as at first, whatever one of its number had been. */
    private static void cleanAgain() {
        LineMaking x = new LineMaking();
        x.chains(3);
        x.keep();
        x.chains(9);
        is(49, x.back(), 0);
        is(50, x.count(0), 3);
        x.work(0, 0, 100);
        x.gang(99);
        x.goes(0, 0);
        x.measure(0, 0, 50);
        x.measure(0, 1, 50);
        x.ahead(0, 2);
        x.days(0, 7);
        x.ahead(0, 0);
        x.run(28);
        is(12, x.told(0, 12), 50);
        x.ahead(0, 2);
        x.back();
        is(11, x.work(2, 1, 30), 0);
        is(16, x.gang(5), 0);
        int[] due = {2, 1, 30, 0, NONE, 0, 1, 2, 5, 0, 0, 0, 0};
        for (int i = 0; i < due.length; i++) is(12, x.told(0, i), due[i]);
        is(17, x.goes(0, NONE), NONE);
        is(50, x.count(11), 0);
    }

    /** Days told from an image are paid by its texts, not by later ones. */
    private static void textsInImages() {
        LineMaking x = new LineMaking();
        x.work(0, 0, 10);
        x.gang(99);
        x.goes(0, 0);
        x.measure(0, 0, 10);
        x.measure(0, 1, 10);
        text(x, "price 7", 0);
        x.run(27);
        x.keep();
        text(x, "price 8", 0);
        text(x, "retain 0", 0);
        x.tell(10);
        x.tell(-63);
        is(47, x.check(1), 0);
        x.run(1);
        is(50, x.count(10), -80);
        x.back();
        is(50, x.count(5), 1);
        x.run(1);
        is(50, x.count(10), -63);
        is(50, x.count(11), 7);
    }

    private static void change(LineMaking x) {
        x.set(3, 0, 70);
        x.set(3, 1, 40);
        x.bore(3);
        x.wet(70, 4);
        x.rule(0, 5);
        x.rule(5, 5);
        x.work(1, 3, 9);
        x.gang(9);
        x.goes(1, 1);
        x.goes(0, NONE);
        x.ahead(0, 2);
        x.days(0, 9);
        x.measure(0, 0, 3);
        text(x, "late n", 0);
        x.claim(0, 5, 0);
        x.due(60, 5);
        x.face(0, 5);
        x.arch(5);
        x.call(50);
        x.run(30);
        x.trim(0);
        // The tape and what waits are as the turn before left them, but for what reading a text uses up.
        for (int i = 0; i < tapeLeft; i += 12) x.feed(1, 2, 3);
        tapeLeft += 12;
    }

    private static int tapeLeft = 0;

    /** The image of the last days: days behind 1999 are dry and are told all the same; pay comes on day 2015, too. */
    private static void behindTheLastDay() {
        LineMaking x = new LineMaking();
        for (int i = 0; i < 33; i++) x.run(60);
        x.run(19);
        x.wet(1999, 9);
        x.work(4, 0, 9999);
        x.gang(20);
        x.goes(0, 0);
        x.measure(0, 0, 9999);
        x.measure(0, 1, 9999);
        is(48, x.keep(), 1999);
        // A bridge rests on day 1999, then 2 yards a day; 32 yards are done by the end of day 2015, at 9, less a tenth.
        for (int i = 0; i < 18; i++) {
            x.tell(2 * i);
            x.tell(i < 16 ? 0 : -(288 - 28));
        }
        is(47, x.check(18), 0);
        is(50, x.count(14), 1999);
        is(50, x.count(10), 0);
        is(12, x.told(0, 3), 0);
        is(47, x.check(30), 1);
    }
}
