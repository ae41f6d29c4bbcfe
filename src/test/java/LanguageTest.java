import java.lang.reflect.Array;
import java.lang.reflect.Constructor;
import java.lang.reflect.Field;
import java.lang.reflect.Method;
import java.lang.reflect.Modifier;
import java.nio.file.Files;
import java.nio.file.Path;
import java.util.ArrayList;
import java.util.Arrays;
import java.util.IdentityHashMap;
import java.util.List;
import java.util.Map;
import java.util.Set;
import java.util.TreeSet;
import java.util.regex.Matcher;
import java.util.regex.Pattern;

/** What can be seen of LANGUAGE.md by looking at the class and at its source. */
public final class LanguageTest {
    private static int wrong = 0;

    public static void main(String[] args) throws Exception {
        theFace();
        theMembers();
        theSource(Files.readString(Path.of("src/main/java/LineMaking.java")));
        whatARunMakes();
        whatAnObjectHolds();
        System.out.println(wrong == 0 ? "the language is kept" : wrong + " faults");
        if (wrong != 0) System.exit(1);
    }

    private static void must(boolean holds, String what) {
        if (holds) return;
        wrong++;
        System.out.println(what);
    }

    private static Set<String> publicFace(Class<?> type) {
        Set<String> face = new TreeSet<>();
        for (Method m : type.getDeclaredMethods()) {
            if (Modifier.isPublic(m.getModifiers())) face.add(m.getReturnType() + " " + m.getName() + Arrays.toString(m.getParameterTypes()));
        }
        return face;
    }

    private static void theFace() throws Exception {
        Set<String> face = publicFace(LineMaking.class);
        must(face.size() == 49, "the face has " + face.size() + " methods");
        must(face.equals(publicFace(PlainLine.class)), "the face is not the document's");
        must(Modifier.isFinal(LineMaking.class.getModifiers()), "the class is not final");
        Constructor<?>[] made = LineMaking.class.getDeclaredConstructors();
        must(made.length == 1 && Modifier.isPublic(made[0].getModifiers()) && made[0].getParameterCount() == 0, "constructors");
        Set<String> constants = new TreeSet<>();
        for (Field f : LineMaking.class.getDeclaredFields()) {
            if (!Modifier.isPublic(f.getModifiers())) continue;
            constants.add(f.getName());
            Field other = PlainLine.class.getDeclaredField(f.getName());
            must(f.getInt(null) == other.getInt(null), f.getName() + " is another number");
        }
        must(constants.equals(Set.of("BAD", "NO", "FULL", "NONE", "NOTHING", "KIND", "INDEX", "SIZE")), "constants " + constants);
    }

    private static void theMembers() {
        Set<String> open = new TreeSet<>();
        for (Method m : LineMaking.class.getDeclaredMethods()) {
            if (Modifier.isPublic(m.getModifiers())) open.add(m.getName());
            else must(Modifier.isPrivate(m.getModifiers()), m.getName() + " is seen from outside");
        }
        for (Field f : LineMaking.class.getDeclaredFields()) {
            boolean hidden = Modifier.isPrivate(f.getModifiers()) || Modifier.isPublic(f.getModifiers());
            must(hidden, f.getName() + " is seen from outside");
        }
        List<Class<?>> all = new ArrayList<>(Arrays.asList(LineMaking.class.getDeclaredClasses()));
        must(all.size() < 12, all.size() + " classes inside");
        for (Class<?> type : all) {
            must(Modifier.isStatic(type.getModifiers()) && !Modifier.isPublic(type.getModifiers()), type + " is not static and hidden");
            for (Method m : type.getDeclaredMethods()) must(!open.contains(m.getName()), m + " bears a name of the face");
        }
        for (Method m : LineMaking.class.getDeclaredMethods()) {
            must(Modifier.isPublic(m.getModifiers()) || !open.contains(m.getName()), m + " bears a name of the face");
        }
        all.add(LineMaking.class);
        for (Class<?> type : all) {
            long fields = Arrays.stream(type.getDeclaredFields()).filter(f -> !Modifier.isStatic(f.getModifiers())).count();
            must(fields <= 20, type + " has " + fields + " fields");
            for (Field f : type.getDeclaredFields()) {
                must(!Modifier.isStatic(f.getModifiers()) || Modifier.isFinal(f.getModifiers()), f + " is static state");
            }
            for (Method m : type.getDeclaredMethods()) must(m.getParameterCount() <= 7, m + " has too many parameters");
        }
    }

    private static void theSource(String source) {
        must(source.chars().allMatch(c -> c < 128), "a sign above 127");
        String bare = source.replaceAll("(?s)/\\*.*?\\*/", "").replaceAll("//[^\n]*", "")
            .replaceAll("\"[^\"\n]*\"", "\"\"").replaceAll("'.'", "' '");
        String[] banned = {"throw", "throws", "try", "catch", "finally", "synchronized", "assert", "instanceof", "float", "double", "package"};
        for (String word : banned) must(!Pattern.compile("\\b" + word + "\\b").matcher(bare).find(), "the word " + word);
        must(!bare.contains("->") && !bare.contains("::"), "a lambda or a method reference");
        Matcher imports = Pattern.compile("import ([^;]+);").matcher(bare);
        while (imports.find()) must(imports.group(1).equals("java.util.Arrays"), "import of " + imports.group(1));
        Set<String> calls = new TreeSet<>();
        Matcher library = Pattern.compile("\\b(Arrays|System|Math|Integer|Long)\\.(\\w+)").matcher(bare);
        while (library.find()) calls.add(library.group());
        Set<String> allowed = Set.of("Arrays.copyOf", "Arrays.fill", "System.arraycopy", "Math.max", "Math.min", "Math.abs", "Integer.bitCount");
        for (String call : calls) must(allowed.contains(call), "call of " + call);
        int start = 0;
        String[] lines = source.split("\n");
        for (int i = 0; i < lines.length; i++) {
            if (lines[i].matches(" {4,8}[\\w<>\\[\\], ]+\\(.*\\) \\{")) start = i;
            if (lines[i].matches(" {4,8}}")) must(i - start <= 60, "the method at line " + (start + 1) + " is long");
            must(lines[i].length() <= 260, "line " + (i + 1) + " is long");
        }
    }

    /** The dearest calls, 512 times, make little beyond what the constructor makes. */
    private static void whatARunMakes() {
        LineMaking x = new LineMaking();
        com.sun.management.ThreadMXBean threads = (com.sun.management.ThreadMXBean) java.lang.management.ManagementFactory.getThreadMXBean();
        for (int i = 0; i < 20; i++) x.claim(0, 1999, i % 4);
        for (int i = 0; i < 24; i++) x.work(1, i % 8, 9999);
        x.keep();
        dearCalls(x);
        long before = threads.getCurrentThreadAllocatedBytes();
        for (int i = 0; i < 512; i++) dearCalls(x);
        long made = threads.getCurrentThreadAllocatedBytes() - before;
        must(made < 1 << 20, "512 rounds of dear calls made " + made + " bytes");
    }

    /** A run that makes a new object by each of its 512 calls still fits into the room. */
    private static void whatAnObjectHolds() throws IllegalAccessException {
        long[] held = new long[2];
        count(new LineMaking(), new IdentityHashMap<>(), held);
        must(512 * held[0] < 600_000, "an object is " + held[0] + " objects and arrays");
        must(512 * held[1] < 7_300_000, "an object has " + held[1] + " fields and elements");
    }

    private static void count(Object one, Map<Object, Object> seen, long[] held) throws IllegalAccessException {
        if (one == null || seen.put(one, one) != null) return;
        held[0]++;
        Class<?> type = one.getClass();
        if (type.isArray()) {
            int length = Array.getLength(one);
            held[1] += length;
            for (int i = 0; i < length && !type.getComponentType().isPrimitive(); i++) count(Array.get(one, i), seen, held);
            return;
        }
        for (Field f : type.getDeclaredFields()) {
            if (Modifier.isStatic(f.getModifiers())) continue;
            f.setAccessible(true);
            held[1]++;
            if (!f.getType().isPrimitive()) count(f.get(one), seen, held);
        }
    }

    private static void dearCalls(LineMaking x) {
        x.best(-1);
        x.haul();
        x.late(9999);
        x.check(30);
        x.back();
        x.keep();
        x.run(60);
        x.order(9, 7);
        x.meets(9999);
        x.chain(3, 9);
        x.out();
        x.feed(0x6c617465, 0x206e2a6e, 0x2b6e2a6e);
        x.text(0);
    }
}
