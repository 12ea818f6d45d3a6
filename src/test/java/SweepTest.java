import java.lang.reflect.Method;
import java.lang.reflect.Modifier;
import java.util.ArrayList;
import java.util.Arrays;
import java.util.HashSet;
import java.util.List;
import java.util.Map;
import java.util.Set;
import java.util.TreeMap;

/**
 * Every act, each of its numbers running over all edges that the document names and the ends of int, each two of
 * them over some, on an object where nothing is there, one with some of each, one that is played and one that is
 * full: held against PlainPlayer, by answer and by status().
 */
final class SweepTest {
    private static final int[] EDGES = { Integer.MIN_VALUE, Integer.MIN_VALUE + 1, -32769, -32768, -257, -256, -129, -128,
        -9, -8, -7, -2, -1, 0, 1, 2, 3, 4, 6, 7, 8, 9, 15, 16, 17, 19, 20, 31, 32, 59, 60, 64, 65, 127, 128, 200, 201, 255,
        256, 257, 500, 501, 1000, 1001, 30000, 30001, 32000, 32001, 32767, 32768, 65535, 65536, Integer.MAX_VALUE - 1,
        Integer.MAX_VALUE };
    private static final int[] FEW = { Integer.MIN_VALUE, -8, -7, -1, 0, 1, 2, 4, 6, 7, 8, 9, 16, 20, 60, 64, 128, 201, 256,
        257, 501, 1001, 30001, 65535, Integer.MAX_VALUE - 1, Integer.MAX_VALUE };
    // What only tells, so that the object need not be made anew behind it.
    private static final Set<String> TELLING = new HashSet<>(Arrays.asList("byteOf", "head", "sum", "read", "whole",
        "finding", "told", "frequency", "mute", "higher", "open", "sounding", "loud", "level", "stop", "at", "times",
        "event", "fallen", "equal", "digest", "count", "strips", "members", "trace"));
    private static final int MANY = 400;

    private static final Map<String, Method> FACE = new TreeMap<>();

    private final String[] script;
    private RollPlayer real;
    private PlainPlayer plain;
    private int calls;
    private static long asked;

    private SweepTest(String script) {
        this.script = script.split("; *");
    }

    public static void main(String[] args) throws Exception {
        for (Method m : RollPlayer.class.getDeclaredMethods()) {
            if (Modifier.isPublic(m.getModifiers()) && !m.getName().equals("status")) FACE.put(m.getName(), m);
        }
        for (String script : new String[] { "", some(), some() + "; play 0; tick 3", full() }) new SweepTest(script).sweep();
        System.out.println("SweepTest: " + asked + " asked, all alike");
    }

    private static String some() {
        return "roll; roll; strip 0 0 5 4 3; strip 0 1 5 3 0; strip 0 2 6 2 2; strip 0 3 6 2 256; strip 0 0 5 8 1; "
            + "strip 1 0 5 9 1; strip 1 3 6 256 1; strip 1 1 5 3 9; strip 1 0 0 0 0; punch 0 0 0 255; punch 0 0 2 129; "
            + "punch 0 3 1 262150; lose 1 2; damage 0 4 9 1; tear 1 0 12; transpose 0 0 1; "
            + "instrument 0; instrument 1; instrument 2; instrument 3; instrument 4; instrument 5; instrument 6; "
            + "instrument 6; couple 6 0; couple 6 3; couple 7 6; couple 7 1; tune 1 0 0; tune 4 3 7; chest 7 4; "
            + "chest 0 2; chest 6 0; place 0 0 7; place 0 1 5; place 1 1 2; wire 0 0 0; wire 1 0 1; wire 2 1 0; "
            + "wire 3 1 2; wire 4 1 1; spoil 5 2; play 0; tick 500";
    }

    private static String full() {
        StringBuilder s = new StringBuilder("roll; roll; strip 0 3 7 256 0; repeat 0 0 1; repeat 0 0 2; repeat 0 0 4; "
            + "repeat 0 0 8; repeat 0 0 8; repeat 0 0 7; strip 0 3 7 63 0; strip 1 0 7 1 1; tear 0 0 8; strip 1 3 7 256 0; "
            + "strip 1 3 7 0 0; damage 1 2 8 1");
        for (int i = 2; i < 20; i++) s.append("; roll");
        for (int i = 0; i < 60; i++) s.append("; instrument ").append(i % 7);
        for (int i = 0; i < 8; i++) s.append("; couple 6 13; couple 13 3");
        for (int i = 0; i < 16; i++) s.append("; chest 7 ").append(i < 15 ? 13 : 5);
        return s.toString();
    }

    private void sweep() throws Exception {
        for (Method m : FACE.values()) {
            makeAnew();
            sweep(m);
        }
    }

    private void makeAnew() throws Exception {
        real = new RollPlayer();
        plain = new PlainPlayer();
        calls = 0;
        for (String line : script) {
            if (line.isEmpty()) continue;
            String[] words = line.split(" ");
            int[] a = new int[words.length - 1];
            for (int i = 0; i < a.length; i++) a[i] = Integer.parseInt(words[i + 1]);
            ask(FACE.get(words[0]), a);
        }
    }

    private void sweep(Method m) throws Exception {
        int n = m.getParameterCount();
        for (int[] usual : usualOf(m.getName(), n)) {
            if (n == 0) goOn(m, usual.clone());
            for (int p = 0; p < n; p++) {
                for (int q = p; q < n; q++) {
                    int[] edges = p == q ? EDGES : FEW;
                    for (int v : edges) {
                        for (int w : edges) {
                            int[] a = usual.clone();
                            a[p] = v;
                            a[q] = w;
                            if (p != q || v == w) goOn(m, a);
                        }
                    }
                }
            }
        }
    }

    /** What the numbers are that do not run: nothing but 0, and such as are let through. */
    private static List<int[]> usualOf(String name, int n) {
        List<int[]> all = new ArrayList<>();
        all.add(new int[n]);
        switch (name) {
            case "strip": all.add(new int[] { 1, 3, 7, 1, 1 }); break;
            case "couple": case "higher": all.add(new int[] { 6, 1 }); break;
            case "tune": all.add(new int[] { 1, 1, 1 }); break;
            case "repeat": all.add(new int[] { 1, 0, 1 }); break;
            case "move": all.add(new int[] { 0, 0, 1, 1, 0 }); break;
            case "copy": all.add(new int[] { 0, 0, 0, 2, 0, 4, 1 }); break;
            default:
        }
        return all;
    }

    private void goOn(Method m, int[] a) throws Exception {
        long answer = ask(m, a);
        boolean tells = TELLING.contains(m.getName());
        if (calls > MANY || (!tells && answer >= 0)) makeAnew();
    }

    private long ask(Method m, int[] a) throws Exception {
        Object[] boxed = new Object[a.length];
        for (int i = 0; i < a.length; i++) boxed[i] = a[i];
        long got = ((Number) m.invoke(real, boxed)).longValue();
        long due = plain.call(m.getName(), a);
        int status = real.status();
        calls += 2;
        asked++;
        if (got != due || status != plain.status) {
            System.out.println(m.getName() + Arrays.toString(a) + " answered " + got + " with status " + status + ", due is "
                + due + " with " + plain.status + ", behind " + String.join("; ", script));
            System.exit(1);
        }
        return got;
    }
}
