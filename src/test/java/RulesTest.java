import java.lang.management.ManagementFactory;
import java.lang.reflect.Constructor;
import java.lang.reflect.Field;
import java.lang.reflect.Method;
import java.lang.reflect.Modifier;
import java.nio.charset.StandardCharsets;
import java.nio.file.Files;
import java.nio.file.Path;
import java.util.ArrayList;
import java.util.Arrays;
import java.util.List;
import java.util.Set;
import java.util.TreeSet;
import java.util.regex.Matcher;
import java.util.regex.Pattern;

/** The face, the rules of LANGUAGE.md that can be seen from outside, and what the dearest runs make. */
final class RulesTest {
    private static final String FACE = "roll() strip(5) punch(4) seal(2) lose(2) tear(3) damage(4) byteOf(3) head(3)L "
        + "sum(2)L read(2) whole(1) finding(2) told(3) instrument(1) couple(2) chest(2) place(3) wire(3) spoil(2) "
        + "tune(3) base(1) frequency(1)L mute(1) higher(2) play(1) tick(1) halt() back(1) open(1) sounding(2) loud(1) "
        + "level(1) stop(1) at(1) times(2) event(2) cut(2) join(2) repeat(3) move(5) copy(7) transpose(3) fallen(2) "
        + "mend(3) equal(2) digest(1)L count(1) strips(1) members(1) trace(1) status()";

    // Far below 7.3 million fields and elements, even if each were but a byte.
    private static final long ROOM = 6_000_000L;

    public static void main(String[] args) throws Exception {
        face();
        classesInside();
        words();
        shortMethods();
        room();
        Due.end("RulesTest");
    }

    private static void face() {
        Due.isTrue(Modifier.isPublic(RollPlayer.class.getModifiers()), "the class is not public");
        Due.isTrue(Modifier.isFinal(RollPlayer.class.getModifiers()), "the class is not final");
        Set<String> due = new TreeSet<>(Arrays.asList(FACE.split(" ")));
        Set<String> found = new TreeSet<>();
        Set<String> names = new TreeSet<>();
        for (Method m : RollPlayer.class.getDeclaredMethods()) {
            if (Modifier.isPrivate(m.getModifiers())) continue;
            Due.isTrue(Modifier.isPublic(m.getModifiers()) && !Modifier.isStatic(m.getModifiers()), m + " is no public one");
            for (Class<?> p : m.getParameterTypes()) Due.isTrue(p == int.class, m + " takes other than ints");
            int n = m.getParameterCount();
            found.add(m.getName() + "(" + (n == 0 ? "" : n) + ")" + (m.getReturnType() == long.class ? "L" : ""));
            names.add(m.getName());
        }
        Due.isTrue(found.equals(due), "the face is " + found);
        List<Class<?>> all = new ArrayList<>(Arrays.asList(RollPlayer.class.getDeclaredClasses()));
        all.add(RollPlayer.class);
        for (Class<?> c : all) {
            for (Method m : c.getDeclaredMethods()) {
                boolean ofFace = c == RollPlayer.class && Modifier.isPublic(m.getModifiers());
                Due.isTrue(ofFace || !names.contains(m.getName()), m + " bears the name of a public one");
            }
        }
        Set<String> fields = new TreeSet<>();
        for (Field f : RollPlayer.class.getDeclaredFields()) {
            if (!Modifier.isPrivate(f.getModifiers())) fields.add(f.getName());
        }
        Due.isTrue(fields.equals(new TreeSet<>(Arrays.asList("BAD", "BUSY", "FULL", "NONE"))), "fields: " + fields);
        Constructor<?>[] makers = RollPlayer.class.getDeclaredConstructors();
        Due.isTrue(makers.length == 1 && Modifier.isPublic(makers[0].getModifiers()), "another constructor");
        Due.isTrue(makers[0].getParameterCount() == 0, "the constructor takes something");
    }

    private static void classesInside() {
        Class<?>[] inside = RollPlayer.class.getDeclaredClasses();
        Due.isTrue(inside.length <= 11, "too many classes");
        for (Class<?> c : inside) {
            Due.isTrue(Modifier.isStatic(c.getModifiers()), c + " is not static");
            Due.isTrue(!Modifier.isPublic(c.getModifiers()), c + " is public");
            int own = 0;
            for (Field f : c.getDeclaredFields()) {
                if (!Modifier.isStatic(f.getModifiers())) own++;
                else Due.isTrue(Modifier.isFinal(f.getModifiers()) && f.getType() == int.class, f + " is no constant");
            }
            Due.isTrue(own <= 20, c + " has too many fields");
            for (Method m : c.getDeclaredMethods()) Due.isTrue(m.getParameterCount() <= 7, m + " takes too many");
        }
    }

    private static String source() throws Exception {
        String text = Files.readString(Path.of("src/main/java/RollPlayer.java"), StandardCharsets.UTF_8);
        return text.replaceAll("(?s)/\\*.*?\\*/", "").replaceAll("//[^\n]*", "");
    }

    private static void words() throws Exception {
        String text = source();
        String[] never = { "throw", "throws", "try", "catch", "finally", "synchronized", "assert", "static\\s*\\{", "->",
            "::", "package", "Double", "Float", "Exact", "System\\.(?!arraycopy)", "hashCode", "equals", "toString",
            "Math\\.(?!max|min|abs|floorMod|floorDiv)", "native", "volatile", "Object", "extends", "protected" };
        for (String w : never) {
            Matcher m = Pattern.compile(Character.isLetter(w.charAt(0)) ? "\\b" + w : w).matcher(text);
            Due.isTrue(!m.find(), "the program has " + w);
        }
        Matcher imports = Pattern.compile("import ([\\w.]+);").matcher(text);
        while (imports.find()) Due.is(imports.group(1).equals("java.util.ArrayList") ? 1 : 0, 1);
        for (char c : Files.readString(Path.of("src/main/java/RollPlayer.java")).toCharArray()) {
            if (c > 126) Due.isTrue(false, "a character beyond ASCII");
        }
    }

    private static void shortMethods() throws Exception {
        int begin = -1;
        String[] lines = source().split("\n");
        for (int i = 0; i < lines.length; i++) {
            if (lines[i].matches(" {4,8}(?! ).*\\) \\{")) begin = i;
            if (begin >= 0 && lines[i].matches(" {4,8}}")) {
                Due.isTrue(i - begin < 60, "a method is long: " + lines[begin].trim());
                begin = -1;
            }
        }
    }

    private interface Run {
        void on(RollPlayer x);
    }

    private static void room() {
        bytes("a new object", 100_000L, x -> { });
        bytes("all that can be played", ROOM, RulesTest::muchPlaying);
        bytes("all strips, moved over and over", ROOM, RulesTest::muchMoving);
        bytes("much asked", ROOM, RulesTest::muchAsking);
    }

    private static void bytes(String what, long most, Run run) {
        com.sun.management.ThreadMXBean bean = (com.sun.management.ThreadMXBean) ManagementFactory.getThreadMXBean();
        long id = Thread.currentThread().getId();
        run.on(new RollPlayer());
        long before = bean.getThreadAllocatedBytes(id);
        run.on(new RollPlayer());
        long made = bean.getThreadAllocatedBytes(id) - before;
        Due.isTrue(made <= most, what + " makes " + made + " bytes");
    }

    private static void muchPlaying(RollPlayer x) {
        x.roll();
        x.chest(7, 8);
        for (int i = 0; i < 8; i++) {
            x.instrument(6);
            x.place(0, i, i);
            x.wire(i, 0, i);
        }
        x.instrument(6);
        x.instrument(3);
        for (int i = 0; i < 8; i++) x.couple(8, 9);
        for (int i = 0; i < 8; i++) for (int k = 0; k < 4; k++) x.couple(i, 8);
        for (int i = 0; i < 8; i++) for (int k = 0; k < 3; k++) x.couple(i, 9);
        for (int s = 0; s < 4; s++) {
            x.strip(0, 0, 0, 250, 250);
            for (int k = 0; k < 60; k++) x.punch(0, s, k, k % 3 == 0 ? 0 : 255);
        }
        for (int i = 0; i < 20; i++) {
            x.play(0);
            x.tick(500);
            x.tick(500);
            x.back(500);
            x.halt();
        }
        Due.is(x.at(8), 20000);
    }

    private static void muchMoving(RollPlayer x) {
        x.roll();
        x.roll();
        for (int i = 0; i < 31; i++) x.strip(0, 3, 0, 256, 0);
        for (int i = 0; i < 169; i++) x.strip(1, 3, 0, 0, 0);
        for (int i = 0; i < 16; i++) x.strip(1, 3, 0, 0, 0);
        x.lose(0, 0);
        for (int i = 0; i < 170; i++) x.move(0, 1 + i % 20, 8, 0, 2 + i % 21);
        for (int i = 0; i < 50; i++) {
            x.lose(0, 5);
            x.mend(0, 5, 0);
        }
    }

    private static void muchAsking(RollPlayer x) {
        x.roll();
        for (int i = 0; i < 31; i++) x.strip(0, i % 4, 0, 256, 0);
        x.instrument(0);
        for (int i = 0; i < 60; i++) {
            x.whole(0);
            x.finding(0, 0);
            x.digest(0);
            x.equal(0, 0);
            x.frequency(0);
            x.transpose(0, 0, 1);
            x.count(6);
        }
    }
}
