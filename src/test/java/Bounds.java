import java.io.IOException;
import java.nio.charset.StandardCharsets;
import java.nio.file.Files;
import java.nio.file.Path;

/**
 * What the tests of boundary cases share: each begins with the sentence of the document that names the case,
 * and a refused call is held to its answer, to status() behind it, and to a twin object that was not asked.
 */
abstract class Bounds {
    static final int BAD = -1, FULL = -2, BUSY = -3, NONE = -4;
    static final int LOST = -11, TORN = -12, SIZE = -13, SPAN = -14, KIND = -15, STORE = -16, LONG = -17, SHORT = -18,
            SUM = -19;
    static final int MIN = Integer.MIN_VALUE, MAX = Integer.MAX_VALUE;

    interface Make {
        Player one();
    }

    interface Act {
        long on(Player x);
    }

    interface ActOf {
        long on(Player x, int v);
    }

    private static String document;
    private static String sentence = "";

    /** The document; empty, if it does not stand beside the project: then its words alone are not tested. */
    static String document() {
        try {
            if (document == null) document = Files.readString(Path.of("../shared/DOC.md"), StandardCharsets.UTF_8);
        } catch (IOException e) {
            document = "";
        }
        return document;
    }

    /** What follows tests this sentence, or part of one, of the document. */
    static void says(String words) {
        sentence = words;
        Due.isTrue(document().isEmpty() || document().contains(words), "the document does not say: " + words);
    }

    static void is(Player x, long got, long due) {
        Due.isTrue(got == due, "answered " + got + ", due is " + due + told(x));
    }

    /** An answer and what status() tells of it, however often it is asked. */
    static void is(Player x, long got, long due, int status) {
        is(x, got, due);
        for (int i = 0; i < 2; i++) {
            int told = x.status();
            Due.isTrue(told == status, "status is " + told + ", due is " + status + told(x));
        }
    }

    private static String told(Player x) {
        return "\n  where the document says: " + sentence + "\n  in the run: " + x.run();
    }

    static int statusOf(long answer) {
        if (answer <= -10) return (int) (-10 - answer);
        return answer == NONE || answer >= 0 ? 0 : (int) answer;
    }

    /** It is let through, with this answer: the object, so that what has changed can be asked for. */
    static Player let(long due, Make make, Act act) {
        Player x = make.one();
        is(x, act.on(x), due, 0);
        return x;
    }

    /** It is refused, with this answer, and nothing has changed. */
    static void refused(long due, Make make, Act act) {
        refused(due, statusOf(due), make, act);
    }

    /** As refused, of what answers a long. */
    static void refusedLong(long due, Make make, Act act) {
        refused(0, statusOf(due), make, act);
    }

    static void refused(long due, int status, Make make, Act act) {
        // Going back would undo some of what has changed, halting at once would hide what is kept: both are tried.
        for (boolean goesBack : new boolean[] { false, true }) {
            Player x = make.one();
            is(x, act.on(x), due, status);
            Player twin = make.one();
            boolean played = twin.at(7) == 1;
            String before = Picture.of(twin, goesBack);
            String after = Picture.of(x, goesBack);
            Due.isTrue(before.equals(after), "something has changed:\n  " + before + "\n  " + after + told(x));
            if (!played) return;
        }
    }

    /** From least to most it is let through; beyond, to the ends of int, it is refused as BAD. */
    static void within(int least, int most, Make make, ActOf act) {
        within(BAD, least, most, make, act);
    }

    static void within(long due, int least, int most, Make make, ActOf act) {
        for (int v : new int[] { least, most }) {
            Player x = make.one();
            long got = act.on(x, v);
            Due.isTrue(got >= 0, "refused with " + got + told(x));
            is(x, got, got, 0);
        }
        for (int v : beyond(least, most)) refused(due, make, x -> act.on(x, v));
    }

    /** As within, of what answers a long. */
    static void withinLong(int least, int most, Make make, ActOf act) {
        for (int v : new int[] { least, most }) {
            Player x = make.one();
            act.on(x, v);
            is(x, 0, 0, 0);
        }
        for (int v : beyond(least, most)) refusedLong(BAD, make, x -> act.on(x, v));
    }

    private static int[] beyond(int least, int most) {
        return new int[] { least - 1, most + 1, MIN, MAX };
    }

    static Make playing(Make make) {
        return () -> {
            Player x = make.one();
            x.play(0);
            return x;
        };
    }

    static Make and(Make make, Act act) {
        return () -> {
            Player x = make.one();
            act.on(x);
            return x;
        };
    }

    // ---- what the tests begin with

    static Player rolls(int n) {
        Player x = new Player();
        for (int i = 0; i < n; i++) x.roll();
        return x;
    }

    /** Roll 0 with one strip of the number 5 and one tick. */
    static Player of(int kind, int n) {
        Player x = rolls(1);
        x.strip(0, kind, 5, n, 1);
        return x;
    }

    /** Roll 0 with one strip of each kind, each of three elements, number 300 and two ticks. */
    static Player four() {
        Player x = rolls(1);
        for (int kind = 0; kind < 4; kind++) x.strip(0, kind, 300, 3, 2);
        return x;
    }

    /** So many strips without elements, half of them in roll 0, the rest in roll 1. */
    static Player strips(int n) {
        Player x = rolls(2);
        x.strip(0, 0, 0, 0, 0);
        for (int have = 1; have < n / 2;) have = x.repeat(0, 0, Math.min(8, Math.min(have, n / 2 - have)));
        x.join(1, 0);
        if (n % 2 == 1) x.strip(0, 0, 0, 0, 0);
        return x;
    }

    /** So many elements, 7936 and more, in 32 strips of holes. */
    static Player elements(int n) {
        Player x = rolls(1);
        x.strip(0, 0, 0, 256, 0);
        for (int have = 1; have < 31;) have = x.repeat(0, 0, Math.min(8, Math.min(have, 31 - have)));
        x.strip(0, 0, 0, n - 7936, 0);
        return x;
    }

    static int width(int kind) {
        return kind == 0 ? 1 : kind == 3 ? 4 : 2;
    }

    /** Byte i of strip 0 of roll 0. */
    static int setByte(Player x, int i, int v) {
        return x.damage(0, 0, i, x.byteOf(0, 0, i) ^ v);
    }

    /** What the head of strip 0 of roll 0 tells. */
    static int setHead(Player x, int what, int v) {
        int[] ends = { 0, 1, 3, 5, 9 };
        for (int i = ends[what]; i < ends[what + 1]; i++) setByte(x, i, v >> (8 * (ends[what + 1] - 1 - i)));
        return 0;
    }
}
