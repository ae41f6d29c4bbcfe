import java.io.IOException;
import java.nio.file.Files;
import java.nio.file.Path;
import java.util.Map;
import java.util.TreeMap;
import java.util.regex.Matcher;
import java.util.regex.Pattern;

/**
 * Tests by sentences: each test quotes the sentence of the document that it is about. A quote that does not stand
 * in its section, and a boundary of a section that no quote takes in, are faults as a wrong answer is.
 */
abstract class Sentences {
    static final int BAD = LineMaking.BAD, NO = LineMaking.NO, FULL = LineMaking.FULL, NONE = LineMaking.NONE;
    static final int NOTHING = LineMaking.NOTHING, KIND = LineMaking.KIND, INDEX = LineMaking.INDEX, SIZE = LineMaking.SIZE;
    static final int LOW = Integer.MIN_VALUE, HIGH = Integer.MAX_VALUE;

    /** Words with which the document names a boundary. */
    private static final Pattern BOUNDARY = Pattern.compile("-?\\d+ (\\.\\.|to) -?\\d+|\\b(BAD|NO|FULL|NONE|NOTHING|KIND:|INDEX|SIZE"
        + "|at most|at least|at first|above|below|behind|cut|up|wrap|never|ninth|needs|held|none|latest|least|greatest|lesser|first|too)\\b");

    private static final Map<String, String> SECTIONS = new TreeMap<>();
    private static final Map<String, boolean[]> QUOTED = new TreeMap<>();
    private static String section = "", quote = "";
    private static int tested = 0, wrong = 0;

    /** The section, as headings of the document name it: "Terms", "Promise 7". */
    static void in(String name) {
        if (SECTIONS.isEmpty()) readDocument();
        section = name;
        if (!SECTIONS.containsKey("")) QUOTED.putIfAbsent(name, new boolean[SECTIONS.getOrDefault(name, "").length()]);
    }

    /** One sentence and its test. */
    static void says(String sentence, Runnable test) {
        quote = sentence;
        markQuoted();
        tested++;
        test.run();
    }

    static void is(int got, int want) {
        if (got != want) fault("answered " + got + ", due is " + want);
    }

    static void all(int[] got, int... want) {
        if (!java.util.Arrays.equals(got, want)) {
            fault("answered " + java.util.Arrays.toString(got) + ", due is " + java.util.Arrays.toString(want));
        }
    }

    static void fault(String what) {
        wrong++;
        int line = java.util.Arrays.stream(Thread.currentThread().getStackTrace())
            .filter(e -> e.getClassName().endsWith("Test")).findFirst().map(StackTraceElement::getLineNumber).orElse(0);
        System.out.println(section + ", \"" + quote + "\", line " + line + ": " + what);
    }

    static void end() {
        quote = "";
        // The opening of the document is a summary: its boundaries stand in the terms and the promises.
        QUOTED.remove("What it is");
        QUOTED.forEach(Sentences::seekUnquoted);
        System.out.println(wrong == 0 ? tested + " sentences hold" : wrong + " faults in " + tested + " sentences");
        if (wrong != 0) System.exit(1);
    }

    private static void readDocument() {
        String shared = System.getenv().getOrDefault("LINEMAKING_SHARED", "../shared");
        Path path = Path.of(shared, "DOC.md");
        if (!Files.isReadable(path)) {
            System.out.println("no document at " + path + ": quotes are not looked up");
            SECTIONS.put("", "");
            return;
        }
        try {
            for (String part : Files.readString(path).split("(?m)^## ")) {
                int end = part.indexOf('\n');
                if (end > 0) SECTIONS.put(part.substring(0, end).replaceFirst(":.*", ""), part.substring(end));
            }
        } catch (IOException e) {
            fault(e.toString());
            SECTIONS.put("", "");
        }
    }

    private static void markQuoted() {
        if (SECTIONS.containsKey("")) return;
        String text = SECTIONS.getOrDefault(section, "");
        int at = text.indexOf(quote);
        if (at < 0 || text.indexOf(quote, at + 1) >= 0) fault("does not stand once in the document's section");
        for (int i = Math.max(at, 0); i < at + quote.length() && at >= 0; i++) QUOTED.get(section)[i] = true;
    }

    private static void seekUnquoted(String name, boolean[] quoted) {
        section = name;
        String text = SECTIONS.getOrDefault(name, "");
        Matcher m = BOUNDARY.matcher(text);
        while (m.find()) {
            if (!quoted[m.start()] || !quoted[m.end() - 1]) {
                int from = Math.max(0, m.start() - 30), to = Math.min(text.length(), m.end() + 30);
                fault("no test takes in: " + text.substring(from, to).replace('\n', ' '));
            }
        }
    }

    // ---- what the tests share

    /** Puts a text on the tape. */
    static void tape(LineMaking x, String text) {
        x.trim(0);
        for (int i = 0; i < text.length(); i += 12) x.feed(four(text, i), four(text, i + 4), four(text, i + 8));
        x.trim(text.length());
    }

    private static int four(String text, int at) {
        int v = 0;
        for (int i = at; i < at + 4; i++) v = v << 8 | (i < text.length() ? text.charAt(i) & 255 : 0);
        return v;
    }

    /** Puts a text on the tape and reads it. */
    static int text(LineMaking x, String text, int day) {
        tape(x, text);
        return x.text(day);
    }

    /** Where the fault of a text is; -1: it is a text. */
    static int faultOf(String text) {
        int answer = text(new LineMaking(), text, 0);
        return answer == 0 ? -1 : -100 - answer;
    }

    /** What an E gives, for the cause and the wet of a claim (whose rule is not held). */
    static int worked(String e, int c, int w) {
        LineMaking x = new LineMaking();
        if (text(x, "claim " + e, 0) != 0) fault("no text: " + e);
        return x.rules(3, c, w, 0);
    }

    /** Lets days go by until this one is open. */
    static void until(LineMaking x, int day) {
        for (int left = day - x.count(14); left > 0; left = day - x.count(14)) x.run(Math.min(60, left));
    }

    /** A line of so many chains, all at 50. */
    static LineMaking line(int chains) {
        LineMaking x = new LineMaking();
        x.chains(chains);
        return x;
    }

    /** Levels of the chain's ground such that it is so deep. */
    static void deep(LineMaking x, int chain, int depth) {
        x.set(chain, 0, depth > 0 ? depth : 0);
        x.set(chain, 1, depth > 0 ? 0 : -depth);
    }

    /** A work with a gang of its own, of so many hands. */
    static int manned(LineMaking x, int kind, int chain, int yards, int hands) {
        int work = x.work(kind, chain, yards);
        x.goes(x.gang(hands), work);
        return work;
    }

    static void measured(LineMaking x, int work, int one, int other) {
        x.measure(work, 0, one);
        x.measure(work, 1, other);
    }
}
