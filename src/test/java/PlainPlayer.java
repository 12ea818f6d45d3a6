import java.io.ByteArrayOutputStream;
import java.math.BigInteger;
import java.util.ArrayDeque;
import java.util.ArrayList;
import java.util.Arrays;
import java.util.Deque;
import java.util.HashSet;
import java.util.List;
import java.util.Set;

/**
 * A second player, written from the document alone and in another way than RollPlayer
 * (exceptions, a class for each kind of instrument, doubles that may be NaN, whole copies
 * of what is played): ModelTest holds the answers of both against each other.
 */
final class PlainPlayer {
    static final int BAD = -1, FULL = -2, BUSY = -3, NONE = -4;
    static final int LOST = 1, TORN = 2, SIZE = 3, SPAN = 4, KIND = 5, STORE = 6, LONG = 7, SHORT = 8, SUM = 9,
            SPOILT = 10;

    static final class Fail extends RuntimeException {
        private static final long serialVersionUID = 1L;
        final int code;

        Fail(int code) {
            super(null, null, false, false);
            this.code = code;
        }
    }

    static void failIf(boolean it, int code) {
        if (it) throw new Fail(code);
    }

    // ---- strips

    static final int[] WIDTH = { 1, 2, 2, 4 };

    static final class Paper {
        int kind, number, ticks;
        byte[] head; // null: LOST
        long[] row;

        Paper(int kind, int number, int ticks) {
            this.kind = kind;
            this.number = number;
            this.ticks = ticks;
        }

        static long cutTo(int kind, long v) {
            switch (kind) {
                case 0: return (byte) v;
                case 1: return (short) v;
                case 2: return (char) v;
                default: return (int) v;
            }
        }

        static byte[] big(long v, int n) {
            byte[] b = new byte[n];
            for (int i = n - 1; i >= 0; i--) {
                b[i] = (byte) v;
                v >>= 8;
            }
            return b;
        }

        byte[] bytes() {
            ByteArrayOutputStream out = new ByteArrayOutputStream();
            out.writeBytes(head);
            for (long e : row) out.writeBytes(big(e, WIDTH[kind]));
            return out.toByteArray();
        }

        void setBytes(byte[] b) {
            head = Arrays.copyOf(b, Math.min(9, b.length));
            int n = Math.max(0, b.length - 9) / WIDTH[kind];
            row = new long[n];
            for (int k = 0; k < n; k++) {
                int at = 9 + k * WIDTH[kind];
                row[k] = cutTo(kind, new BigInteger(Arrays.copyOfRange(b, at, at + WIDTH[kind])).longValue());
            }
        }

        long told(int from, int to) {
            failIf(head == null, LOST);
            failIf(head.length < to, TORN);
            return new BigInteger(Arrays.copyOfRange(head, from, to)).longValue();
        }

        int itsSum() {
            byte[] b = bytes();
            int s = 1;
            for (int i = 0; i < b.length; i++) {
                if (i < 5 || i > 8) s = s * 31 + b[i];
            }
            return s;
        }

        void seal() {
            head = new byte[9];
            head[0] = (byte) kind;
            System.arraycopy(big(number, 2), 0, head, 1, 2);
            System.arraycopy(big(row.length, 2), 0, head, 3, 2);
            System.arraycopy(big(itsSum(), 4), 0, head, 5, 4);
        }

        int read() {
            if (head == null) return LOST;
            if (head.length != 9) return TORN;
            if (told(0, 1) != kind) return KIND;
            long length = told(3, 5);
            if (length > row.length) return LONG;
            if (length < 0) return SIZE;
            if (length < row.length) return SHORT;
            return told(5, 9) == itsSum() ? 0 : SUM;
        }

        int elements() {
            return head == null ? 0 : row.length;
        }

        Paper twin() {
            Paper p = new Paper(kind, number, ticks);
            p.take(this);
            return p;
        }

        void take(Paper other) {
            head = other.head == null ? null : other.head.clone();
            row = other.row == null ? null : other.row.clone();
        }
    }

    final List<List<Paper>> rolls = new ArrayList<>();

    int stripsInAll() {
        return rolls.stream().mapToInt(List::size).sum();
    }

    int elementsInAll() {
        return rolls.stream().flatMap(List::stream).mapToInt(Paper::elements).sum();
    }

    List<Paper> rollOf(int r) {
        failIf(r < 0 || r >= rolls.size(), BAD);
        return rolls.get(r);
    }

    Paper paperOf(int r, int s) {
        List<Paper> roll = rollOf(r);
        failIf(s < 0 || s >= roll.size(), BAD);
        return roll.get(s);
    }

    // ---- instruments

    final int[] bodies = new int[17];
    double base = 440.0;

    abstract class Ins {
        int number;
        int p = 1, q = 1;
        final List<Ins> members = new ArrayList<>();

        double ratio() {
            return q == 0 ? Double.NaN : (double) p / q;
        }

        abstract double frequency();

        abstract int loud(int v, int a);

        int size() {
            return 1 + members.stream().mapToInt(Ins::size).sum();
        }

        boolean has(Ins other) {
            return this == other || members.stream().anyMatch(m -> m.has(other));
        }

        int open(int track) {
            bodies[14]++;
            int n = now.spoil[number];
            if (n > 0) {
                now.spoil[number] = n - 1;
                if (n == 1) return SPOILT;
            }
            now.sounds.add(new int[] { number, track, now.gone });
            now.opened[number]++;
            note(1, number, track);
            return 0;
        }
    }

    class Pipe extends Ins {
        double frequency() {
            bodies[8]++;
            return base * ratio();
        }

        int air() {
            bodies[6]++;
            int drawn = 0;
            for (boolean s : now.stops) if (s) drawn++;
            return 3 + drawn;
        }

        int loud(int v, int a) {
            bodies[0]++;
            return v + air();
        }
    }

    class Reed extends Pipe {
        @Override
        double frequency() {
            bodies[9]++;
            return super.frequency() / 2.0;
        }

        @Override
        int loud(int v, int a) {
            bodies[1]++;
            return super.loud(v, a) + 7;
        }
    }

    class Bass extends Reed {
        @Override
        double frequency() {
            bodies[10]++;
            return Math.floor(super.frequency() * 4.0) / 4.0;
        }

        @Override
        int air() {
            bodies[7]++;
            return 2 * super.air();
        }
    }

    class Drum extends Ins {
        double frequency() {
            throw new Fail(KIND);
        }

        int loud(int v, int a) {
            bodies[2]++;
            return a == 0 ? 2 * v : 0;
        }
    }

    class Plucked extends Ins {
        double frequency() {
            bodies[11]++;
            return Math.rint((base * ratio()) * 8.0) / 8.0;
        }

        int loud(int v, int a) {
            bodies[3]++;
            return Math.max(v - 5 * a, 0);
        }
    }

    class Bell extends Plucked {
        @Override
        double frequency() {
            bodies[12]++;
            return Math.floor(super.frequency()) + 0.25;
        }

        @Override
        int loud(int v, int a) {
            bodies[4]++;
            return super.loud(v, a / 4) + 1;
        }
    }

    class Coupler extends Ins {
        double frequency() {
            bodies[13]++;
            double best = Double.NaN;
            for (Ins m : members) {
                if (m instanceof Drum) continue;
                double f = m.frequency();
                if (Double.isNaN(best) || f > best) best = f;
            }
            return best;
        }

        int loud(int v, int a) {
            bodies[5]++;
            return 0;
        }

        @Override
        int open(int track) {
            bodies[15]++;
            int why = super.open(track);
            if (why != 0) return why;
            int[] mine = now.sounds.get(now.sounds.size() - 1);
            for (Ins m : members) {
                why = m.open(track);
                if (why == 0) continue;
                int[] ended;
                do {
                    ended = now.sounds.get(now.sounds.size() - 1);
                    end(ended);
                } while (ended != mine);
                return why;
            }
            return 0;
        }
    }

    static final Class<?>[] CLASSES = { Pipe.class, Reed.class, Bass.class, Drum.class, Plucked.class, Bell.class,
        Coupler.class };

    Ins make(int kind) {
        switch (kind) {
            case 0: return new Pipe();
            case 1: return new Reed();
            case 2: return new Bass();
            case 3: return new Drum();
            case 4: return new Plucked();
            case 5: return new Bell();
            default: return new Coupler();
        }
    }

    final List<Ins> instruments = new ArrayList<>();
    final List<Ins[]> chests = new ArrayList<>();
    final List<Integer> chestKinds = new ArrayList<>();
    final int[][] wires = new int[8][];

    Ins insOf(int i) {
        failIf(i < 0 || i >= instruments.size(), BAD);
        return instruments.get(i);
    }

    int places() {
        return chests.stream().mapToInt(c -> c.length).sum();
    }

    // ---- playing

    static final class State {
        int[] spoil = new int[60];
        int[] opened = new int[60];
        int[] ended = new int[60];
        List<int[]> sounds = new ArrayList<>();
        List<int[]> events = new ArrayList<>();
        boolean[] holes = new boolean[8];
        int[] levels = new int[8];
        boolean[] stops = new boolean[16];
        int tempo, beat, phase, gone, place = -1, over;
        boolean whole;
        int from, to, times, k;

        State twin() {
            State s = new State();
            s.spoil = spoil.clone();
            s.opened = opened.clone();
            s.ended = ended.clone();
            s.sounds = new ArrayList<>(sounds);
            s.events = new ArrayList<>(events);
            s.holes = holes.clone();
            s.levels = levels.clone();
            s.stops = stops.clone();
            s.tempo = tempo;
            s.beat = beat;
            s.phase = phase;
            s.gone = gone;
            s.place = place;
            s.over = over;
            s.whole = whole;
            s.from = from;
            s.to = to;
            s.times = times;
            s.k = k;
            return s;
        }
    }

    State now = new State();
    List<Paper> played;
    int allTicks;
    final Deque<State> history = new ArrayDeque<>();

    void note(int sort, int of, int rest) {
        now.events.add(new int[] { sort, now.gone, of, rest });
    }

    void end(int[] sound) {
        bodies[16]++;
        now.sounds.remove(sound);
        now.ended[sound[0]]++;
        note(2, sound[0], sound[1]);
    }

    void endAll() {
        while (!now.sounds.isEmpty()) end(now.sounds.get(now.sounds.size() - 1));
        Arrays.fill(now.holes, false);
    }

    void start(List<Paper> roll) {
        State s = new State();
        s.spoil = now.spoil;
        Arrays.fill(s.levels, 1000);
        Arrays.fill(s.stops, true);
        s.tempo = 24;
        now = s;
        played = roll;
        history.clear();
        history.addLast(now.twin());
    }

    boolean oneTick() {
        if (allTicks == 20000) return false;
        while (now.place < 0 || now.over == played.get(now.place).ticks) {
            if (now.place + 1 == played.size()) {
                endAll();
                played = null;
                return false;
            }
            now.place++;
            now.over = 0;
            Paper p = played.get(now.place);
            int why = p.read();
            now.whole = why == 0;
            note(0, now.place, why);
            if (why != 0) endAll();
            else if (p.ticks == 0) for (long e : p.row) element(p.kind, (int) e);
        }
        Paper p = played.get(now.place);
        if (now.whole && now.over < p.row.length) element(p.kind, (int) p.row[now.over]);
        now.over++;
        if (now.k < now.times) {
            now.k++;
            BigInteger above = BigInteger.valueOf(now.to - now.from).multiply(BigInteger.valueOf(2L * now.k))
                .add(BigInteger.valueOf(now.times));
            BigInteger below = BigInteger.valueOf(2L * now.times);
            BigInteger[] parts = above.divideAndRemainder(below);
            int whole = parts[0].intValueExact() - (parts[1].signum() < 0 ? 1 : 0);
            now.tempo = now.from + whole;
        }
        now.phase++;
        if (now.phase >= now.tempo) {
            now.phase = 0;
            now.beat++;
        }
        now.gone++;
        allTicks++;
        history.addLast(now.twin());
        if (history.size() > 501) history.removeFirst();
        return true;
    }

    void element(int kind, int e) {
        if (kind == 0) {
            for (int t = 0; t < 8; t++) hole(t, (e & (1 << t)) != 0);
        } else if (kind == 1) {
            if (e < 0) Arrays.fill(now.levels, e & 4095);
            else now.levels[(e >> 12) & 7] = e & 4095;
        } else if (kind == 2) {
            int upper = "ABCDEFGHIJKLMNOP".indexOf((char) e);
            int lower = "abcdefghijklmnop".indexOf((char) e);
            if (upper >= 0) now.stops[upper] = true;
            if (lower >= 0) now.stops[lower] = false;
        } else {
            int t = e & 65535;
            int r = e >>> 16;
            if (t == 0) return;
            now.times = r;
            now.k = 0;
            now.from = now.tempo;
            now.to = t;
            if (r == 0) now.tempo = t;
        }
    }

    void hole(int t, boolean punched) {
        if (now.holes[t] == punched) return;
        now.holes[t] = punched;
        if (!punched) {
            for (int i = now.sounds.size() - 1; i >= 0; i--) {
                if (now.sounds.get(i)[1] == t) end(now.sounds.get(i));
            }
            return;
        }
        int[] w = wires[t];
        if (w == null || !now.stops[w[0]]) return;
        Ins[] chest = chests.get(w[0]);
        int why = w[1] < 0 || w[1] >= chest.length ? TORN : chest[w[1]] == null ? LOST : chest[w[1]].open(t);
        if (why != 0) note(3, t, why);
    }

    // ---- the calls

    static final Set<String> LONGS = new HashSet<>(Arrays.asList("head", "sum", "frequency", "digest"));

    int status;
    private int late;
    private List<int[]> fallen = new ArrayList<>();

    long call(String name, int... a) {
        if (name.equals("status")) return status;
        try {
            late = 0;
            long answer = act(name, a);
            status = late;
            return answer;
        } catch (Fail f) {
            status = f.code == NONE ? 0 : f.code;
            if (LONGS.contains(name)) return 0;
            return f.code > 0 ? -10 - f.code : f.code;
        }
    }

    private void notBusy() {
        failIf(played != null, BUSY);
    }

    private static void within(int v, int least, int most) {
        failIf(v < least || v > most, BAD);
    }

    private long act(String name, int[] a) {
        switch (name) {
            case "roll": case "strip": case "punch": case "seal": case "lose": case "tear": case "damage":
                return change(name, a);
            case "byteOf": case "head": case "sum": case "read": case "whole": case "finding": case "told":
                return look(name, a);
            case "instrument": case "couple": case "chest": case "place": case "wire": case "spoil": case "tune":
            case "base": case "frequency": case "mute": case "higher": case "members": case "times":
                return organ(name, a);
            case "cut": case "join": case "repeat": case "move": case "copy": case "transpose": case "fallen":
            case "mend": case "equal": case "digest":
                return edit(name, a);
            default:
                return stage(name, a);
        }
    }

    private long change(String name, int[] a) {
        if (name.equals("roll")) {
            notBusy();
            failIf(rolls.size() == 20, FULL);
            rolls.add(new ArrayList<>());
            return rolls.size() - 1;
        }
        if (name.equals("strip")) {
            List<Paper> roll = rollOf(a[0]);
            within(a[1], 0, 3);
            within(a[2], 0, 30000);
            failIf(a[3] > 256, BAD);
            within(a[4], 0, 256);
            notBusy();
            failIf(stripsInAll() == 400 || elementsInAll() + (long) a[3] > 8000, FULL);
            failIf(a[3] < 0, SIZE);
            Paper p = new Paper(a[1], a[2], a[4]);
            p.row = new long[a[3]];
            p.seal();
            roll.add(p);
            return roll.size() - 1;
        }
        Paper p = paperOf(a[0], a[1]);
        if (name.equals("tear")) failIf(a[2] < 0, BAD);
        notBusy();
        if (name.equals("lose")) {
            int was = p.head == null ? 0 : 1;
            p.head = null;
            p.row = null;
            return was;
        }
        failIf(p.head == null, LOST);
        switch (name) {
            case "punch":
                failIf(a[2] < 0 || a[2] >= p.row.length, TORN);
                int was = p.read();
                p.row[a[2]] = Paper.cutTo(p.kind, a[3]);
                if (was == 0) p.seal();
                return 1;
            case "seal":
                p.seal();
                return p.row.length;
            case "tear":
                byte[] all = p.bytes();
                if (a[2] < all.length) p.setBytes(Arrays.copyOf(all, a[2]));
                return p.row.length;
            default:
                byte[] b = p.bytes();
                failIf(a[2] < 0 || a[2] >= b.length, TORN);
                b[a[2]] ^= (byte) a[3];
                p.setBytes(b);
                return b[a[2]] & 255;
        }
    }

    private long look(String name, int[] a) {
        if (name.equals("whole")) return rollOf(a[0]).stream().filter(p -> p.read() == 0).count();
        if (name.equals("finding")) {
            List<Paper> roll = rollOf(a[0]);
            failIf(a[1] < 0, BAD);
            List<Integer> places = new ArrayList<>();
            for (int i = 0; i < roll.size(); i++) if (roll.get(i).read() != 0) places.add(i);
            failIf(a[1] >= places.size(), NONE);
            return places.get(a[1]);
        }
        Paper p = paperOf(a[0], a[1]);
        switch (name) {
            case "byteOf":
                failIf(p.head == null, LOST);
                byte[] b = p.bytes();
                failIf(a[2] < 0 || a[2] >= b.length, TORN);
                return b[a[2]] & 255;
            case "head":
                within(a[2], 0, 3);
                int[] ends = { 0, 1, 3, 5, 9 };
                return p.told(ends[a[2]], ends[a[2] + 1]);
            case "sum":
                failIf(p.head == null, LOST);
                failIf(p.head.length < 5, TORN);
                return p.itsSum();
            case "read":
                failIf(p.read() != 0, p.read());
                return p.row.length;
            default:
                within(a[2], 0, 3);
                return new int[] { p.kind, p.number, p.ticks, p.elements() }[a[2]];
        }
    }

    private long organ(String name, int[] a) {
        switch (name) {
            case "instrument":
                within(a[0], 0, 6);
                notBusy();
                failIf(instruments.size() == 60, FULL);
                Ins made = make(a[0]);
                made.number = instruments.size();
                instruments.add(made);
                return made.number;
            case "couple":
                Ins over = insOf(a[0]);
                Ins under = insOf(a[1]);
                failIf(under.has(over), BAD);
                notBusy();
                failIf(!(over instanceof Coupler), KIND);
                failIf(over.members.size() == 8, FULL);
                over.members.add(under);
                if (instruments.stream().anyMatch(i -> i.size() > 40)) {
                    over.members.remove(over.members.size() - 1);
                    throw new Fail(FULL);
                }
                return over.members.size();
            case "chest":
                within(a[0], 0, 7);
                notBusy();
                failIf(chests.size() == 16 || places() + (long) a[1] > 200, FULL);
                failIf(a[1] < 0, SIZE);
                chests.add(new Ins[a[1]]);
                chestKinds.add(a[0]);
                return chests.size() - 1;
            case "place":
                failIf(a[0] < 0 || a[0] >= chests.size(), BAD);
                Ins put = a[2] == -1 ? null : insOf(a[2]);
                notBusy();
                Ins[] chest = chests.get(a[0]);
                failIf(a[1] < 0 || a[1] >= chest.length, TORN);
                int kind = chestKinds.get(a[0]);
                failIf(put != null && kind != 7 && !CLASSES[kind].isInstance(put), STORE);
                chest[a[1]] = put;
                return 1;
            case "wire":
                within(a[0], 0, 7);
                within(a[1], -1, chests.size() - 1);
                notBusy();
                wires[a[0]] = a[1] == -1 ? null : new int[] { a[1], a[2] };
                return 1;
            case "base":
                within(a[0], 1, 32000);
                notBusy();
                base = a[0] / 16.0;
                return 1;
            default:
                return oneInstrument(name, a);
        }
    }

    private long oneInstrument(String name, int[] a) {
        Ins it = insOf(a[0]);
        switch (name) {
            case "spoil":
                within(a[1], 0, 1000);
                notBusy();
                int had = now.spoil[it.number];
                now.spoil[it.number] = a[1];
                return had;
            case "tune":
                within(a[1], 0, 1000);
                within(a[2], 0, 1000);
                failIf(a[2] == 0 && a[1] > 0, BAD);
                notBusy();
                failIf(it instanceof Drum || it instanceof Coupler, KIND);
                it.p = a[1];
                it.q = a[2];
                return a[2] == 0 ? 0 : 1;
            case "frequency":
                return Double.doubleToLongBits(it.frequency());
            case "mute":
                return Double.isNaN(it.frequency()) ? 1 : 0;
            case "higher":
                Ins other = insOf(a[1]);
                failIf(it instanceof Drum || other instanceof Drum, KIND);
                double f = it.frequency();
                double g = other.frequency();
                return f > g ? 1 : f == g ? 2 : f < g ? 3 : 0;
            case "members":
                failIf(!(it instanceof Coupler), KIND);
                return it.members.size();
            default:
                within(a[1], 0, 1);
                return (a[1] == 0 ? now.opened : now.ended)[it.number];
        }
    }

    private long edit(String name, int[] a) {
        switch (name) {
            case "cut":
                List<Paper> roll = rollOf(a[0]);
                within(a[1], 0, roll.size());
                notBusy();
                failIf(rolls.size() == 20, FULL);
                List<Paper> rest = roll.subList(a[1], roll.size());
                rolls.add(new ArrayList<>(rest));
                rest.clear();
                return rolls.size() - 1;
            case "join":
                List<Paper> into = rollOf(a[0]);
                List<Paper> other = rollOf(a[1]);
                failIf(a[0] == a[1], BAD);
                notBusy();
                return insertTwins(into, into.size(), other);
            case "repeat":
                List<Paper> again = rollOf(a[0]);
                within(a[2], 0, 8);
                failIf(a[1] < 0 || a[1] + (long) a[2] > again.size(), BAD);
                notBusy();
                return insertTwins(again, a[1] + a[2], again.subList(a[1], a[1] + a[2]));
            case "move":
                return move(a);
            case "copy":
                return copy(a);
            case "transpose":
                return transpose(a);
            case "fallen":
                failIf(a[0] < 0, BAD);
                within(a[1], 0, 1);
                failIf(a[0] >= fallen.size(), NONE);
                return fallen.get(a[0])[a[1]];
            case "mend":
                return mend(a);
            case "equal":
                return equal(rollOf(a[0]), rollOf(a[1]));
            default:
                int s = 7;
                for (Paper p : rollOf(a[0])) {
                    s = s * 31 + p.kind;
                    s = s * 31 + p.number;
                    s = s * 31 + p.ticks;
                    if (p.head != null) for (byte b : p.bytes()) s = s * 31 + b;
                }
                return s;
        }
    }

    private int insertTwins(List<Paper> into, int at, List<Paper> those) {
        List<Paper> twins = new ArrayList<>();
        int elements = 0;
        for (Paper p : those) {
            twins.add(p.twin());
            elements += p.elements();
        }
        failIf(stripsInAll() + twins.size() > 400 || elementsInAll() + elements > 8000, FULL);
        into.addAll(at, twins);
        return into.size();
    }

    private int move(int[] a) {
        List<Paper> from = rollOf(a[0]);
        List<Paper> to = rollOf(a[3]);
        within(a[2], 0, 8);
        notBusy();
        for (int k = 0; k < a[2]; k++) {
            long i = a[1] + (long) k;
            long j = a[4] + (long) k;
            if (i < 0 || i >= from.size() || j < 0 || j >= to.size()) late = TORN;
            else {
                Paper p = from.get((int) i);
                Paper q = to.get((int) j);
                if (p.head == null || q.head == null) late = LOST;
                else if (p.kind != q.kind) late = KIND;
                else if (elementsInAll() - q.elements() + p.elements() > 8000) late = FULL;
                else q.take(p);
            }
            if (late != 0) return k;
        }
        return a[2];
    }

    private int copy(int[] a) {
        Paper p = paperOf(a[0], a[1]);
        Paper q = paperOf(a[4], a[5]);
        notBusy();
        failIf(p.head == null || q.head == null, LOST);
        failIf(p.kind != q.kind, KIND);
        failIf(a[3] < 0 || a[2] < 0 || a[6] < 0, SPAN);
        failIf((long) a[2] + a[3] > p.row.length || (long) a[6] + a[3] > q.row.length, SPAN);
        long[] were = Arrays.copyOfRange(p.row, a[2], a[2] + a[3]);
        System.arraycopy(were, 0, q.row, a[6], a[3]);
        return a[3];
    }

    private int transpose(int[] a) {
        Paper p = paperOf(a[0], a[1]);
        within(a[2], -7, 7);
        notBusy();
        failIf(p.kind != 0, KIND);
        failIf(p.read() != 0, p.read());
        fallen = new ArrayList<>();
        for (int k = 0; k < p.row.length; k++) {
            int shifted = 0;
            for (int t = 0; t < 8; t++) {
                if ((p.row[k] & (1 << t)) == 0) continue;
                if (t + a[2] < 0 || t + a[2] > 7) fallen.add(new int[] { k, t });
                else shifted |= 1 << (t + a[2]);
            }
            p.row[k] = (byte) shifted;
        }
        p.seal();
        return fallen.size();
    }

    private int mend(int[] a) {
        Paper p = paperOf(a[0], a[1]);
        List<Paper> other = rollOf(a[2]);
        notBusy();
        if (p.read() == 0) return a[1];
        for (int i = 0; i < other.size(); i++) {
            Paper q = other.get(i);
            if (q.kind != p.kind || q.number != p.number || q.read() != 0) continue;
            failIf(elementsInAll() - p.elements() + q.elements() > 8000, FULL);
            p.take(q);
            return i;
        }
        throw new Fail(NONE);
    }

    private static int equal(List<Paper> one, List<Paper> other) {
        if (one.size() != other.size()) return 0;
        for (int i = 0; i < one.size(); i++) {
            Paper p = one.get(i);
            Paper q = other.get(i);
            if (p.kind != q.kind || p.number != q.number || p.ticks != q.ticks) return 0;
            if ((p.head == null) != (q.head == null)) return 0;
            if (p.head != null && !Arrays.equals(p.bytes(), q.bytes())) return 0;
        }
        return 1;
    }

    private long stage(String name, int[] a) {
        switch (name) {
            case "play":
                List<Paper> roll = rollOf(a[0]);
                notBusy();
                start(roll);
                return roll.size();
            case "tick":
                within(a[0], 0, 500);
                failIf(played == null, NONE);
                int went = 0;
                while (went < a[0] && played != null && oneTick()) went++;
                return went;
            case "halt":
                failIf(played == null, NONE);
                int ended = now.sounds.size();
                endAll();
                played = null;
                return ended;
            case "back":
                within(a[0], 0, 500);
                failIf(played == null || a[0] >= history.size(), NONE);
                for (int i = 0; i < a[0]; i++) history.removeLast();
                now = history.getLast().twin();
                return now.gone;
            case "open":
                within(a[0], 0, 7);
                failIf(!now.holes[a[0]], NONE);
                return now.sounds.stream().filter(s -> s[1] == a[0]).count();
            case "sounding":
                failIf(a[0] < 0, BAD);
                within(a[1], 0, 2);
                failIf(a[0] >= now.sounds.size(), NONE);
                int[] s = now.sounds.get(a[0]);
                return a[1] == 2 ? now.gone - s[2] : s[a[1]];
            case "loud":
                failIf(a[0] < 0, BAD);
                failIf(a[0] >= now.sounds.size(), NONE);
                int[] l = now.sounds.get(a[0]);
                Ins it = instruments.get(l[0]);
                if (!(it instanceof Drum) && Double.isNaN(it.frequency())) return 0;
                return it.loud(now.levels[l[1]], now.gone - l[2]);
            case "level":
                within(a[0], 0, 7);
                return now.levels[a[0]];
            case "stop":
                within(a[0], 0, 15);
                return now.stops[a[0]] ? 1 : 0;
            default:
                return tell(name, a);
        }
    }

    private long tell(String name, int[] a) {
        switch (name) {
            case "at":
                within(a[0], 0, 8);
                failIf(a[0] == 4 && now.place < 0, NONE);
                return new int[] { now.tempo, now.beat, now.phase, now.gone, now.place, now.over, now.whole ? 1 : 0,
                    played != null ? 1 : 0, allTicks }[a[0]];
            case "event":
                failIf(a[0] < 0, BAD);
                within(a[1], 0, 3);
                failIf(a[0] >= Math.min(1500, now.events.size()), NONE);
                return now.events.get(a[0])[a[1]];
            case "count":
                within(a[0], 0, 7);
                return new int[] { rolls.size(), instruments.size(), chests.size(), now.events.size(),
                    now.sounds.size(), fallen.size(), elementsInAll(), places() }[a[0]];
            case "strips":
                return rollOf(a[0]).size();
            case "trace":
                within(a[0], 0, 16);
                return bodies[a[0]];
            default:
                throw new IllegalArgumentException(name);
        }
    }
}
