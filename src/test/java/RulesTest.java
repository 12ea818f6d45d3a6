import java.lang.management.ManagementFactory;
import java.lang.reflect.Constructor;
import java.lang.reflect.Field;
import java.lang.reflect.Method;
import java.lang.reflect.Modifier;
import java.nio.charset.StandardCharsets;
import java.nio.file.Files;
import java.nio.file.Path;
import java.util.ArrayList;
import java.util.Arrays;
import java.util.List;
import java.util.Set;
import java.util.TreeSet;
import java.util.regex.Matcher;
import java.util.regex.Pattern;

/** The face, the rules of LANGUAGE.md that can be seen from outside, and what the dearest runs make. */
final class RulesTest {
    private static final String FACE = "roll() strip(5) punch(4) seal(2) lose(2) tear(3) damage(4) byteOf(3) head(3)L "
        + "sum(2)L read(2) whole(1) finding(2) told(3) instrument(1) couple(2) chest(2) place(3) wire(3) spoil(2) "
        + "tune(3) base(1) frequency(1)L mute(1) higher(2) play(1) tick(1) halt() back(1) open(1) sounding(2) loud(1) "
        + "level(1) stop(1) at(1) times(2) event(2) cut(2) join(2) repeat(3) move(5) copy(7) transpose(3) fallen(2) "
        + "mend(3) equal(2) digest(1)L count(1) strips(1) members(1) trace(1) status()";

    // 7.3 million fields and elements, most of them ints.
    private static final long ROOM = 7_300_000L * 4;
    private static final Set<Class<?>> CONSTANTS = Set.of(int.class, long.class, boolean.class, char.class, String.class,
        int[].class, long[].class, char[].class, byte[].class);

    public static void main(String[] args) throws Exception {
        face();
        privateNames();
        classesInside();
        words();
        shortMethods();
        room();
        Due.end("RulesTest");
    }

    private static void face() {
        Due.isTrue(Modifier.isPublic(RollPlayer.class.getModifiers()), "the class is not public");
        Due.isTrue(Modifier.isFinal(RollPlayer.class.getModifiers()), "the class is not final");
        Set<String> due = new TreeSet<>(Arrays.asList(FACE.split(" ")));
        Set<String> found = new TreeSet<>();
        for (Method m : RollPlayer.class.getDeclaredMethods()) {
            if (Modifier.isPrivate(m.getModifiers()) || m.isSynthetic()) continue;
            Due.isTrue(Modifier.isPublic(m.getModifiers()) && !Modifier.isStatic(m.getModifiers()), m + " is no public one");
            for (Class<?> p : m.getParameterTypes()) Due.isTrue(p == int.class, m + " takes other than ints");
            int n = m.getParameterCount();
            found.add(m.getName() + "(" + (n == 0 ? "" : n) + ")" + (m.getReturnType() == long.class ? "L" : ""));
        }
        Due.isTrue(found.equals(due), "the face is " + found);
        Set<String> fields = new TreeSet<>();
        for (Field f : RollPlayer.class.getDeclaredFields()) {
            if (!Modifier.isPrivate(f.getModifiers()) && !f.isSynthetic()) fields.add(f.getName());
        }
        Due.isTrue(fields.equals(new TreeSet<>(Arrays.asList("BAD", "BUSY", "FULL", "NONE"))), "fields: " + fields);
        Constructor<?>[] makers = RollPlayer.class.getDeclaredConstructors();
        Due.isTrue(makers.length == 1 && Modifier.isPublic(makers[0].getModifiers()), "another constructor");
        Due.isTrue(makers[0].getParameterCount() == 0, "the constructor takes something");
    }

    private static List<Class<?>> allClasses() {
        List<Class<?>> all = new ArrayList<>(Arrays.asList(RollPlayer.class.getDeclaredClasses()));
        all.add(RollPlayer.class);
        return all;
    }

    private static void privateNames() {
        for (Class<?> c : allClasses()) {
            for (Method m : c.getDeclaredMethods()) {
                boolean ofFace = (" " + FACE).contains(" " + m.getName() + "(");
                Due.isTrue(!Modifier.isPrivate(m.getModifiers()) || !ofFace, m + " bears the name of a public one");
            }
        }
    }

    private static void classesInside() {
        Due.isTrue(allClasses().size() <= 13, "too many classes");
        for (Class<?> c : allClasses()) {
            boolean inside = c != RollPlayer.class;
            Due.isTrue(!inside || Modifier.isStatic(c.getModifiers()), c + " is not static");
            Due.isTrue(!inside || !Modifier.isPublic(c.getModifiers()), c + " is public");
            int own = 0;
            for (Field f : c.getDeclaredFields()) {
                if (!Modifier.isStatic(f.getModifiers())) own++;
                else if (!f.isSynthetic()) Due.isTrue(isConstant(f), f + " is no constant");
            }
            Due.isTrue(own <= 24, c + " has too many fields");
            for (Method m : c.getDeclaredMethods()) Due.isTrue(m.getParameterCount() <= 7, m + " takes too many");
        }
    }

    private static boolean isConstant(Field f) {
        Class<?> type = f.getType();
        boolean ofEnum = type.isEnum() || (type.isArray() && type.getComponentType().isEnum());
        return Modifier.isFinal(f.getModifiers()) && (CONSTANTS.contains(type) || ofEnum);
    }

    private static String source() throws Exception {
        String text = Files.readString(Path.of("src/main/java/RollPlayer.java"), StandardCharsets.UTF_8);
        return text.replaceAll("(?s)/\\*.*?\\*/", "").replaceAll("//[^\n]*", "");
    }

    private static void words() throws Exception {
        String text = source();
        String[] never = { "\\bthrows?\\b", "\\btry\\b", "\\bcatch\\b", "\\bfinally\\b", "\\bsynchronized\\b",
            "\\bassert\\b", "static\\s*\\{", "::", "(?m)^\\s*package\\b", "\\bDouble\\b", "\\bFloat\\b", "Exact\\(",
            "\\bSystem\\.(?!arraycopy)", "\\bMath\\.(floor|ceil|rint|round|sqrt|pow|random|exp|log)\\(", "\\bnative\\b",
            "\\bThread\\b", "\\bvolatile\\b" };
        for (String w : never) Due.isTrue(!Pattern.compile(w).matcher(text).find(), "the program has " + w);
        for (String line : text.split("\n")) {
            Due.isTrue(!line.contains("->") || line.matches("\\s*(case .*|default )->.*"), "a lambda: " + line);
        }
        Matcher imports = Pattern.compile("import ([\\w.]+)").matcher(text);
        List<String> library = List.of("java.util.ArrayList", "java.util.List", "java.util.Arrays", "java.util.Iterator");
        while (imports.find()) Due.isTrue(library.contains(imports.group(1)), "beyond the library: " + imports.group(1));
    }

    private static void shortMethods() throws Exception {
        int begin = -1;
        String[] lines = source().split("\n");
        for (int i = 0; i < lines.length; i++) {
            if (lines[i].matches(" {4,8}(?! ).*\\) \\{")) begin = i;
            if (begin >= 0 && lines[i].matches(" {4,8}}")) {
                Due.isTrue(i - begin < 70, "a method is long: " + lines[begin].trim());
                begin = -1;
            }
        }
    }

    private interface Run {
        void on(RollPlayer x);
    }

    private static void room() {
        bytes("all that can be played", RulesTest::muchPlaying);
        bytes("all strips, moved over and over", RulesTest::muchMoving);
        bytes("much asked", RulesTest::muchAsking);
    }

    private static void bytes(String what, Run run) {
        com.sun.management.ThreadMXBean bean = (com.sun.management.ThreadMXBean) ManagementFactory.getThreadMXBean();
        long id = Thread.currentThread().getId();
        run.on(new RollPlayer());
        long before = bean.getThreadAllocatedBytes(id);
        run.on(new RollPlayer());
        long made = bean.getThreadAllocatedBytes(id) - before;
        Due.isTrue(made <= ROOM, what + " makes " + made + " bytes");
    }

    private static void muchPlaying(RollPlayer x) {
        x.roll();
        x.chest(7, 8);
        for (int i = 0; i < 8; i++) {
            x.instrument(6);
            x.place(0, i, i);
            x.wire(i, 0, i);
        }
        x.instrument(6);
        x.instrument(3);
        for (int i = 0; i < 8; i++) x.couple(8, 9);
        for (int i = 0; i < 8; i++) for (int k = 0; k < 4; k++) x.couple(i, 8);
        for (int i = 0; i < 8; i++) for (int k = 0; k < 3; k++) x.couple(i, 9);
        for (int s = 0; s < 4; s++) {
            x.strip(0, 0, 0, 250, 250);
            for (int k = 0; k < 60; k++) x.punch(0, s, k, k % 3 == 0 ? 0 : 255);
        }
        for (int i = 0; i < 20; i++) {
            x.play(0);
            x.tick(500);
            x.tick(500);
            x.back(500);
            x.halt();
        }
        Due.is(x.at(8), 20000);
    }

    private static void muchMoving(RollPlayer x) {
        x.roll();
        x.roll();
        for (int i = 0; i < 31; i++) x.strip(0, 3, 0, 256, 0);
        for (int i = 0; i < 169; i++) x.strip(1, 3, 0, 0, 0);
        for (int i = 0; i < 16; i++) x.strip(1, 3, 0, 0, 0);
        x.lose(0, 0);
        for (int i = 0; i < 170; i++) x.move(0, 1 + i % 20, 8, 0, 2 + i % 21);
        for (int i = 0; i < 50; i++) {
            x.lose(0, 5);
            x.mend(0, 5, 0);
        }
    }

    private static void muchAsking(RollPlayer x) {
        x.roll();
        for (int i = 0; i < 31; i++) x.strip(0, i % 4, 0, 256, 0);
        x.instrument(0);
        for (int i = 0; i < 60; i++) {
            x.whole(0);
            x.finding(0, 0);
            x.digest(0);
            x.equal(0, 0);
            x.frequency(0);
            x.transpose(0, 0, 1);
            x.count(6);
        }
    }
}
