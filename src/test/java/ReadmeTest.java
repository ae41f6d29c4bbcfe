import java.io.IOException;
import java.lang.reflect.Method;
import java.lang.reflect.Modifier;
import java.nio.file.Files;
import java.nio.file.Path;
import java.util.regex.Matcher;
import java.util.regex.Pattern;

/** README.md against the class: its examples answer as they say, and its table names every call as it is declared. */
public final class ReadmeTest {
    private static final Pattern BLOCK = Pattern.compile("(?s)```java\n(.*?)```");
    private static final Pattern CALL = Pattern.compile("line\\.(\\w+)\\(([^)]*)\\); +// ([^ :]+)(:? .*)?");
    private static int tested = 0, wrong = 0;

    public static void main(String[] args) throws IOException {
        String page = Files.readString(Path.of("README.md"));
        Matcher blocks = BLOCK.matcher(page);
        while (blocks.find()) example(blocks.group(1));
        if (tested == 0) fault("README.md has no example");
        theTable(page);
        theTests(page);
        System.out.println(wrong == 0 ? tested + " calls of README.md answer as they say" : wrong + " faults");
        if (wrong != 0) System.exit(1);
    }

    private static void fault(String what) {
        wrong++;
        System.out.println(what);
    }

    private static void example(String block) {
        LineMaking line = null;
        for (String row : block.split("\n")) {
            if (row.equals("LineMaking line = new LineMaking();")) {
                line = new LineMaking();
                continue;
            }
            Matcher call = CALL.matcher(row);
            if (line == null || !call.matches()) {
                fault("not an example: " + row);
                continue;
            }
            tested++;
            int got = Script.call(line, call.group(1), numbers(call.group(2)));
            if (got != number(call.group(3))) fault(row + " answered " + got);
        }
    }

    private static int[] numbers(String list) {
        if (list.isEmpty()) return new int[0];
        String[] all = list.split(", ");
        int[] numbers = new int[all.length];
        for (int i = 0; i < all.length; i++) numbers[i] = number(all[i]);
        return numbers;
    }

    private static int number(String word) {
        switch (word.replace("LineMaking.", "")) {
            case "BAD": return LineMaking.BAD;
            case "NONE": return LineMaking.NONE;
            default: return Integer.decode(word);
        }
    }

    private static void theTable(String page) {
        for (Method m : LineMaking.class.getDeclaredMethods()) {
            if (!Modifier.isPublic(m.getModifiers())) continue;
            Matcher entry = Pattern.compile("`" + m.getName() + "\\(([^)]*)\\)`").matcher(page);
            if (!entry.find()) {
                fault("README.md does not name " + m.getName());
                continue;
            }
            int named = entry.group(1).isEmpty() ? 0 : entry.group(1).split(", ").length;
            if (named != m.getParameterCount()) fault("README.md gives " + m.getName() + " " + named + " numbers");
        }
    }

    private static void theTests(String page) throws IOException {
        try (var files = Files.list(Path.of("src/test/java"))) {
            files.map(f -> f.getFileName().toString()).filter(f -> f.endsWith("Test.java")).forEach(f -> {
                if (!page.contains("`" + f.replace(".java", "") + "`")) fault("README.md does not tell of " + f);
            });
        }
    }
}
