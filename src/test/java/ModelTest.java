import java.lang.reflect.Method;
import java.util.ArrayList;
import java.util.HashMap;
import java.util.List;
import java.util.Map;
import java.util.Random;

/** Long runs of calls, drawn by fixed seeds, on RollPlayer and PlainPlayer: all promises. */
final class ModelTest {
    private static final Map<String, Method> METHODS = new HashMap<>();
    private static final int[] ODD = { -1, -2, Integer.MIN_VALUE, Integer.MAX_VALUE, 7, 8, 16, 20, 60, 256, 257, 500,
        501, 1000, 1001, 30000, 30001 };
    private static final String[] STRIPS = { "strip", "punch", "punch", "punch", "seal", "lose", "tear", "damage",
        "damage", "byteOf", "head", "sum", "read", "whole", "finding", "told", "cut", "join", "repeat", "repeat",
        "move", "move", "copy", "copy", "transpose", "transpose", "fallen", "mend", "mend", "equal", "digest", "roll",
        "count", "strips" };
    private static final String[] ORGAN = { "instrument", "instrument", "couple", "couple", "couple", "chest", "place",
        "place", "wire", "spoil", "tune", "tune", "base", "frequency", "frequency", "mute", "higher", "members",
        "trace", "count" };
    private static final String[] STAGE = { "tick", "tick", "tick", "tick", "back", "open", "sounding", "loud", "loud",
        "level", "stop", "at", "at", "times", "event", "count", "trace", "read", "halt", "play", "play", "spoil" };

    // The document promises no more of one object; the last of them are kept for what it tells in the end.
    private static final int PROMISED = 512, FOR_THE_END = 120;

    private final Random random;
    private final boolean wide;
    private int calls;
    private final RollPlayer real = new RollPlayer();
    private final PlainPlayer plain = new PlainPlayer();
    private final List<String> said = new ArrayList<>();
    private int wrong;

    private ModelTest(long seed, boolean wide) {
        this.random = new Random(seed);
        this.wide = wide;
    }

    public static void main(String[] args) throws Exception {
        for (Method m : RollPlayer.class.getDeclaredMethods()) {
            if (java.lang.reflect.Modifier.isPublic(m.getModifiers())) METHODS.put(m.getName(), m);
        }
        int runs = args.length > 0 ? Integer.parseInt(args[0]) : 4000;
        for (int seed = 1; seed <= runs; seed++) {
            ModelTest run = new ModelTest(seed, seed % 5 == 0);
            run.go(seed);
            if (run.wrong > 0) {
                System.out.println("run of seed " + seed + " differs; its calls:");
                for (String s : run.said) System.out.println("  " + s);
                System.exit(1);
            }
        }
        System.out.println("ModelTest: " + runs + " runs are alike");
    }

    private void go(int seed) throws Exception {
        switch (seed % 4) {
            case 3:
                crowd();
                many(STRIPS, 120);
                many(STAGE, 60);
                break;
            case 0:
                many(STRIPS, 150);
                many(ORGAN, 40);
                many(STAGE, 100);
                break;
            case 1:
                many(ORGAN, 120);
                many(STRIPS, 40);
                many(STAGE, 120);
                break;
            default:
                show();
                for (int i = 0; i < 6; i++) {
                    many(STAGE, 30);
                    many(STRIPS, 5);
                    many(ORGAN, 5);
                }
        }
        compareAll();
    }

    /** A roll and an organ with which there is something to hear. */
    private void show() throws Exception {
        quietly("roll");
        for (int i = 0; i < 24; i++) quietly("instrument", i < 16 ? i % 7 : 6);
        for (int i = 0; i < 40; i++) quietly("couple", random.nextBoolean() ? 6 : 13 + random.nextInt(11), any(24));
        for (int i = 0; i < 6; i++) quietly("chest", 7, 4);
        for (int i = 0; i < 20; i++) quietly("place", any(6), any(4), any(24));
        for (int i = 0; i < 10; i++) quietly("wire", any(8), any(6), any(5));
        for (int i = 0; i < 6; i++) quietly("spoil", any(24), any(6));
        for (int i = 0; i < 5; i++) quietly("tune", any(24), any(3), any(3));
        int strips = 3 + any(8);
        boolean slow = any(6) == 0;
        for (int s = 0; s < strips; s++) {
            int kind = random.nextInt(3) > 0 ? 0 : any(4);
            int n = slow ? any(60) : any(12);
            quietly("strip", 0, kind, any(3), n, any(4) == 0 ? 0 : any(slow ? 250 : 12));
            for (int k = 0; k < n; k++) quietly("punch", 0, s, k, element(kind));
            if (any(8) == 0) quietly("damage", 0, s, any(12), any(256));
        }
        quietly("play", 0);
    }

    /** So much that little more has room: of elements or of strips, and of what else there is. */
    private void crowd() throws Exception {
        boolean elements = random.nextBoolean();
        int rolls = 16 + any(5);
        for (int i = 0; i < rolls; i++) quietly("roll");
        for (int i = 0; i < 30; i++) quietly("strip", i % rolls, any(4), any(3), elements ? 250 + any(7) : 15, any(3));
        for (int i = 0; i < 6 && !elements; i++) {
            for (int r = 0; r < rolls; r++) quietly("repeat", r, 0, Math.min(8, plain.rolls.get(r).size()));
        }
        for (int i = 0; i < 12 && elements; i++) quietly("lose", any(rolls), 0);
        for (int i = 0; i < 58; i++) quietly("instrument", any(7));
        for (int i = 0; i < 5; i++) quietly("instrument", 6);
        for (int i = 0; i < 18; i++) quietly("chest", any(8), 11 + any(2));
    }

    private void many(String[] names, int n) throws Exception {
        if (plain.rolls.isEmpty()) call("roll");
        for (int i = 0; i < n && wrong == 0 && calls < PROMISED - FOR_THE_END; i++) {
            String name = names[random.nextInt(names.length)];
            if (names == STAGE && any(20) == 0) name = STRIPS[random.nextInt(STRIPS.length)];
            if (names == STAGE && any(30) == 0) name = ORGAN[random.nextInt(ORGAN.length)];
            if (names == STAGE && plain.played == null && any(2) == 0) name = "play";
            if (name.equals("roll") && any(wide ? 2 : 6) > 0) continue;
            if (name.equals("halt") && any(4) > 0) continue;
            call(name, arguments(name));
        }
        if (names == STAGE && plain.played != null && any(3) > 0) call("halt");
    }

    /** A call, and as a rule, with a refusal always, what status() tells of it. */
    private void call(String name, int... a) throws Exception {
        long got = quietly(name, a);
        if (wrong > 0 || calls >= PROMISED || (got >= 0 && any(3) > 0)) return;
        calls++;
        int status = real.status();
        if (status == plain.status) return;
        wrong++;
        said.add("  its status is " + status + ", due is " + plain.status);
    }

    private long quietly(String name, int... a) throws Exception {
        if (wrong > 0 || calls >= PROMISED) return 0;
        calls++;
        Object[] boxed = new Object[a.length];
        StringBuilder text = new StringBuilder(name).append('(');
        for (int i = 0; i < a.length; i++) {
            boxed[i] = a[i];
            text.append(i == 0 ? "" : ", ").append(a[i]);
        }
        long got = ((Number) METHODS.get(name).invoke(real, boxed)).longValue();
        long due = plain.call(name, a);
        said.add(text + ") " + got);
        if (got != due) {
            wrong++;
            said.add("  due is " + due);
        }
        return got;
    }

    /** All that is told, as far as there are calls left: each run begins with another part of it. */
    private void compareAll() throws Exception {
        int first = random.nextInt(5);
        for (int part = 0; part < 5; part++) compare((first + part) % 5);
    }

    private void compare(int part) throws Exception {
        switch (part) {
            case 0:
                for (int r = 0; r < plain.rolls.size(); r++) quietly("digest", r);
                for (int r = 0; r < plain.rolls.size(); r++) quietly("whole", r);
                for (int r = 0; r < plain.rolls.size(); r++) quietly("strips", r);
                break;
            case 1:
                for (int i = 0; i < plain.instruments.size(); i++) quietly("times", i, any(2));
                for (int i = 0; i < 17; i++) quietly("trace", i);
                break;
            case 2:
                for (int k = 0; k < Math.min(plain.now.sounds.size() + 1, 25); k++) {
                    for (int what = 0; what < 3; what++) quietly("sounding", k, what);
                    quietly("loud", k);
                }
                break;
            case 3:
                int events = plain.now.events.size();
                for (int k = events; k >= Math.max(0, events - 25); k--) {
                    for (int what = 0; what < 4; what++) quietly("event", k, what);
                }
                break;
            default:
                for (int i = 0; i < 8; i++) {
                    quietly("level", i);
                    quietly("open", i);
                    quietly("count", i);
                    quietly("at", i);
                }
                for (int i = 0; i < 16; i++) quietly("stop", i);
                quietly("at", 8);
        }
    }

    private int any(int n) {
        return n <= 0 ? 0 : random.nextInt(n);
    }

    /** Mostly a number below n. */
    private int about(int n) {
        int draw = random.nextInt(40);
        if (draw == 0) return ODD[random.nextInt(ODD.length)];
        if (draw == 1) return n;
        if (draw == 2) return -1;
        return any(n);
    }

    private int roll() {
        return about(plain.rolls.size());
    }

    private int strip(int roll) {
        return about(roll >= 0 && roll < plain.rolls.size() ? plain.rolls.get(roll).size() : 1);
    }

    private int elements(int roll, int strip) {
        if (roll < 0 || roll >= plain.rolls.size()) return 3;
        if (strip < 0 || strip >= plain.rolls.get(roll).size()) return 3;
        return plain.rolls.get(roll).get(strip).elements();
    }

    private int instrument() {
        return about(plain.instruments.size());
    }

    private int element(int kind) {
        switch (kind) {
            case 0: return any(3) == 0 ? any(256) : 1 << any(8) | 1 << any(8);
            case 1: return random.nextInt();
            case 2: return any(4) == 0 ? random.nextInt() : (any(2) == 0 ? 'A' : 'a') + any(18);
            default:
                if (any(5) == 0) return random.nextInt();
                return any(4) == 0 ? any(9) : (any(6) << 16) + any(60);
        }
    }

    private int[] arguments(String name) {
        int r = roll();
        int s = strip(r);
        switch (name) {
            case "roll": case "halt": return new int[0];
            case "strip": return new int[] { r, about(4), any(4) == 0 ? about(30001) : any(3), length(), ticks() };
            case "punch": return new int[] { r, s, about(elements(r, s)), element(any(4)) };
            case "seal": case "lose": case "sum": case "read": return new int[] { r, s };
            case "tear": return new int[] { r, s, any(3) == 0 ? about(10) : about(9 + 4 * elements(r, s)) };
            case "damage": return new int[] { r, s, any(2) == 0 ? about(9) : about(9 + 2 * elements(r, s)),
                any(2) == 0 ? 1 << any(9) : random.nextInt() };
            case "byteOf": return new int[] { r, s, about(9 + 4 * elements(r, s)) };
            case "head": case "told": return new int[] { r, s, about(4) };
            case "play": return new int[] { any(3) > 0 ? 0 : r };
            case "whole": case "digest": case "strips": return new int[] { r };
            case "finding": return new int[] { r, about(4) };
            case "cut": return new int[] { r, strip(r) };
            case "join": case "equal": return new int[] { r, roll() };
            case "repeat": return new int[] { r, s, about(9) };
            case "move": return new int[] { r, s, about(9), any(2) == 0 ? r : roll(), strip(r) };
            case "copy":
                int to = any(2) == 0 ? r : roll();
                int other = any(2) == 0 ? s : strip(to);
                int n = about(elements(r, s) + 1);
                return new int[] { r, s, about(elements(r, s) - n + 1), n, to, other, about(elements(to, other) - n + 1) };
            case "transpose": return new int[] { r, s, about(16) - 8 };
            case "fallen": return new int[] { about(12), about(2) };
            case "mend": return new int[] { r, s, any(2) == 0 ? r : roll() };
            default: return others(name);
        }
    }

    private int length() {
        if (wide) return any(3) == 0 ? about(257) : 250 - any(3);
        return any(8) == 0 ? about(257) : any(9);
    }

    private int ticks() {
        return any(5) == 0 ? 0 : any(9) == 0 ? about(257) : any(10);
    }

    private int[] others(String name) {
        switch (name) {
            case "instrument": return new int[] { any(3) == 0 ? 6 : about(7) };
            case "couple": case "higher": return new int[] { instrument(), instrument() };
            case "chest": return new int[] { any(2) == 0 ? 7 : about(8), any(20) == 0 ? about(201) : about(8) - any(2) };
            case "place": return new int[] { about(plain.chests.size()), about(6), instrument() };
            case "wire": return new int[] { about(8), about(plain.chests.size()), about(5) };
            case "spoil": return new int[] { instrument(), any(4) == 0 ? about(1001) : about(4) };
            case "tune":
                if (any(4) == 0) return new int[] { instrument(), 0, 0 };
                return new int[] { instrument(), any(2) == 0 ? about(9) : about(1001), any(2) == 0 ? about(9) : about(1001) };
            case "base": return new int[] { about(32001) };
            case "frequency": case "mute": case "members": return new int[] { instrument() };
            case "tick": return new int[] { any(20) == 0 ? about(501) : about(9) };
            case "back": return new int[] { any(10) == 0 ? about(501) : about(9) };
            case "open": case "level": return new int[] { about(8) };
            case "sounding": return new int[] { about(plain.now.sounds.size()), about(3) };
            case "loud": return new int[] { about(plain.now.sounds.size()) };
            case "stop": return new int[] { about(16) };
            case "at": return new int[] { about(9) };
            case "times": return new int[] { instrument(), about(2) };
            case "event": return new int[] { about(plain.now.events.size()), about(4) };
            case "count": return new int[] { about(8) };
            case "trace": return new int[] { about(17) };
            default: throw new IllegalArgumentException(name);
        }
    }
}
