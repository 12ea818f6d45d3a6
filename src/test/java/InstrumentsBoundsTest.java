/** Section 3 but what is played, and promises 16 to 26: each sentence that names a boundary case. */
final class InstrumentsBoundsTest extends Bounds {
    private static final int PIPE = 0, REED = 1, BASS = 2, DRUM = 3, PLUCKED = 4, BELL = 5, COUPLER = 6;
    private static final int[] TUNED = { PIPE, REED, BASS, PLUCKED, BELL };
    private static final long NO_NUMBER = 0x7ff8000000000000L;
    private static final Make SEVEN = InstrumentsBoundsTest::seven;

    public static void main(String[] args) {
        howMany();
        places();
        members();
        sizes();
        frequencies();
        rounding();
        noNumber();
        couplers();
        promise16();
        promise17();
        promise17Order();
        promise18();
        promise19();
        promise20();
        promise21();
        promise22();
        promise23();
        promise24();
        promise25();
        promise26();
        Due.end("InstrumentsBoundsTest");
    }

    /** One instrument of each kind, its number being its kind; and roll 0, without strips. */
    private static Player seven() {
        Player x = rolls(1);
        for (int kind = 0; kind < 7; kind++) x.instrument(kind);
        return x;
    }

    private static Player instruments(int n) {
        Player x = rolls(1);
        for (int i = 0; i < n; i++) x.instrument(i % 7);
        return x;
    }

    private static Player chests(int n, int places) {
        Player x = seven();
        for (int i = 0; i < n; i++) x.chest(7, places);
        return x;
    }

    // ---- section 3

    private static void howMany() {
        says("INSTRUMENTS (60 at most), numbered from 0 on, of KINDS 0 PIPE, 1 REED (a PIPE, too), 2 BASS (a REED, too), 3 DRUM, 4 PLUCKED, 5 BELL (PLUCKED, too), 6 COUPLER.");
        Player x = let(59, () -> instruments(59), y -> y.instrument(6));
        is(x, x.members(59), 0);
        is(x, x.members(60), BAD, BAD);
        refused(FULL, () -> instruments(60), y -> y.instrument(6));
        is(x, x.count(1), 60);

        says("CHESTS (16 at most; 200 PLACES in all) of a KIND 0 .. 6, or 7: any");
        let(15, () -> chests(15, 0), y -> y.chest(7, 0));
        refused(FULL, () -> chests(16, 0), y -> y.chest(7, 0));
        for (int c : new int[] { -1, 16, MIN, MAX }) {
            refused(BAD, () -> chests(16, 1), y -> y.place(c, 0, 0));
            if (c != -1) refused(BAD, () -> chests(16, 1), y -> y.wire(0, c, 0));
        }
        let(1, () -> chests(16, 1), y -> y.place(15, 0, 0));
        let(1, () -> chests(16, 1), y -> y.wire(0, 15, 0));
        let(0, () -> chests(0, 0), y -> y.chest(7, 200));
        refused(FULL, () -> chests(0, 0), y -> y.chest(7, 201));
        let(1, () -> chests(1, 199), y -> y.chest(7, 1));
        refused(FULL, () -> chests(1, 199), y -> y.chest(7, 2));
        let(1, () -> chests(1, 200), y -> y.chest(7, 0));
        refused(FULL, () -> chests(1, 200), y -> y.chest(7, 1));
        refused(FULL, () -> chests(1, 200), y -> y.chest(7, MAX));
        let(15, () -> chests(15, 13), y -> y.chest(7, 5));
        refused(FULL, () -> chests(15, 13), y -> y.chest(7, 6));
        within(0, 7, () -> chests(0, 0), (y, v) -> y.chest(v, 1));
    }

    private static void places() {
        says("its PLACES are empty at first and take what is of its KIND.");
        Player x = and(() -> chests(1, 1), y -> y.wire(0, 0, 0)).one();
        x.strip(0, 0, 0, 1, 1);
        x.punch(0, 0, 0, 1);
        x.play(0);
        x.tick(1);
        is(x, x.event(1, 0), 3);
        is(x, x.event(1, 3), 1);
        String[] takes = { "012", "12", "2", "3", "45", "5", "6", "0123456" };
        for (int kind = 0; kind < 8; kind++) {
            int k = kind;
            for (int it = 0; it < 7; it++) {
                int i = it;
                Make make = and(SEVEN, y -> y.chest(k, 1));
                if (takes[kind].indexOf('0' + it) >= 0) let(1, make, y -> y.place(0, 0, i));
                else refused(STORE, make, y -> y.place(0, 0, i));
            }
        }
    }

    /** Coupler 0 with so many times drum 1. */
    private static Player coupled(int n) {
        Player x = rolls(1);
        x.instrument(COUPLER);
        x.instrument(DRUM);
        for (int i = 0; i < n; i++) x.couple(0, 1);
        return x;
    }

    private static void members() {
        says("A COUPLER has MEMBERS (8 at most; none at first)");
        let(0, () -> coupled(0), x -> x.members(0));
        let(8, () -> coupled(7), x -> x.couple(0, 1));
        refused(FULL, () -> coupled(8), x -> x.couple(0, 1));
        let(8, () -> coupled(8), x -> x.members(0));
    }

    /** A drum 0, coupler 1 of the size 9, coupler 2 over it of the size told, coupler 3 over that. */
    private static Player sized(int size) {
        Player x = rolls(1);
        x.instrument(DRUM);
        for (int i = 0; i < 3; i++) x.instrument(COUPLER);
        for (int i = 0; i < 8; i++) x.couple(1, 0);
        for (int have = 1; have < size;) {
            boolean big = size - have >= 9;
            x.couple(2, big ? 1 : 0);
            have += big ? 9 : 1;
        }
        return x;
    }

    private static void sizes() {
        says("the SIZE 1 and theirs together (of others 1), 40 at most.");
        let(7, () -> sized(39), x -> x.couple(2, 0));
        refused(FULL, () -> sized(40), x -> x.couple(2, 0));
        let(4, () -> sized(28), x -> x.couple(2, 1));
        let(7, () -> sized(31), x -> x.couple(2, 1));
        refused(FULL, () -> sized(32), x -> x.couple(2, 1));
        // A coupler without members is of the size 1, too.
        let(7, () -> sized(39), x -> x.couple(2, 3));
        refused(FULL, () -> sized(40), x -> x.couple(2, 3));
        // Over it the size is one more: 39 has room there, 40 has not.
        let(1, () -> sized(39), x -> x.couple(3, 2));
        refused(FULL, () -> sized(40), x -> x.couple(3, 2));
        // Some size: not of the one that gets it, but of one over it.
        Make under = and(() -> sized(38), x -> x.couple(3, 2));
        let(6, under, x -> x.couple(2, 0));
        refused(FULL, and(under, x -> x.couple(2, 0)), x -> x.couple(2, 0));
        refused(FULL, and(under, x -> x.couple(3, 0)), x -> x.couple(2, 0));
        // It comes as often as its coupler stands there: 19 twice and 1 are 39, 20 twice would be 41.
        Make twice = and(and(() -> sized(19), x -> x.couple(3, 2)), x -> x.couple(3, 2));
        refused(FULL, twice, x -> x.couple(2, 0));
        let(3, twice, x -> x.couple(3, 0));
        // As deep as 40: one in another.
        Player x = rolls(1);
        for (int i = 0; i < 41; i++) x.instrument(COUPLER);
        for (int i = 38; i >= 0; i--) is(x, x.couple(i, i + 1), 1, 0);
        is(x, x.couple(39, 40), FULL, FULL);
        is(x, x.couple(40, 0), FULL, FULL);
        is(x, x.couple(39, 0), BAD, BAD);
        is(x, x.couple(40, 1), 1, 0);
        is(x, x.frequency(0), NO_NUMBER, 0);
        is(x, x.trace(13), 40);
    }

    private static double due(int kind, double base, int p, int q) {
        double f = base * ((double) p / (double) q);
        switch (kind) {
            case PIPE: return f;
            case REED: return f / 2.0;
            case BASS: return Math.floor(f / 2.0 * 4.0) / 4.0;
            case PLUCKED: return Math.rint(f * 8.0) / 8.0;
            default: return Math.floor(Math.rint(f * 8.0) / 8.0) + 0.25;
        }
    }

    private static void frequencies() {
        says("FREQUENCIES are doubles, all acts on them single ones.");
        int[] bases = { 1, 2, 15, 16, 17, 7040, 31999, 32000 };
        int[][] ratios = { { 0, 1 }, { 0, 1000 }, { 1, 1000 }, { 1, 999 }, { 999, 1000 }, { 1000, 1000 }, { 1000, 999 },
            { 1000, 1 }, { 1, 1 }, { 1, 3 }, { 2, 3 } };
        for (int kind : TUNED) {
            Player x = seven();
            for (int v : bases) {
                x.base(v);
                for (int[] r : ratios) {
                    x.tune(kind, r[0], r[1]);
                    is(x, x.frequency(kind), Double.doubleToLongBits(due(kind, v / 16.0, r[0], r[1])), 0);
                }
            }
        }
        says("PIPE, REED, BASS, PLUCKED, BELL have a RATIO: p / q (1 / 1 at first), or no number: 0 / 0. PIPE: BASE * RATIO (BASE is 440.0 at first).");
        for (int kind : TUNED) {
            let(Double.doubleToLongBits(due(kind, 440.0, 1, 1)), SEVEN, x -> x.frequency(kind));
        }
        let(Double.doubleToLongBits(0.0), and(SEVEN, x -> x.tune(PIPE, 0, 1)), x -> x.frequency(PIPE));
        let(NO_NUMBER, and(SEVEN, x -> x.tune(PIPE, 0, 0)), x -> x.frequency(PIPE));
    }

    private static void at(int kind, int base, int p, int q, double due) {
        Make make = and(and(SEVEN, x -> x.base(base)), x -> x.tune(kind, p, q));
        let(Double.doubleToLongBits(due), make, x -> x.frequency(kind));
    }

    private static void rounding() {
        says("REED: as a PIPE, that / 2.0.");
        at(REED, 1, 1, 1, 0.03125);
        at(REED, 32000, 1000, 1, 1000000.0);
        says("BASS: as a REED, floor(that * 4.0) / 4.0.");
        // Half of 7/16 is 7/32, below a quarter; half of 8/16 is one; half of 15/16 is below two.
        at(BASS, 7, 1, 1, 0.0);
        at(BASS, 8, 1, 1, 0.25);
        at(BASS, 15, 1, 1, 0.25);
        at(BASS, 16, 1, 1, 0.5);
        at(BASS, 32000, 1000, 1, 1000000.0);
        at(BASS, 1, 0, 1, 0.0);
        says("PLUCKED: rint((BASE * RATIO) * 8.0) / 8.0.");
        // 1/16 is half an eighth: to the even one, be it down or up.
        at(PLUCKED, 1, 1, 1, 0.0);
        at(PLUCKED, 3, 1, 1, 0.25);
        at(PLUCKED, 5, 1, 1, 0.25);
        at(PLUCKED, 7, 1, 1, 0.5);
        at(PLUCKED, 2, 1, 1, 0.125);
        at(PLUCKED, 1, 999, 1000, 0.0);
        at(PLUCKED, 1, 1000, 999, 0.125);
        at(PLUCKED, 31999, 1, 1, 2000.0);
        at(PLUCKED, 31997, 1, 1, 1999.75);
        at(PLUCKED, 1, 0, 1, 0.0);
        says("BELL: as PLUCKED, floor(that) + 0.25.");
        at(BELL, 1, 0, 1, 0.25);
        at(BELL, 15, 1, 1, 1.25);
        at(BELL, 14, 1, 1, 0.25);
        at(BELL, 16, 1, 1, 1.25);
        at(BELL, 32000, 1000, 1, 2000000.25);
    }

    private static void noNumber() {
        says("Where RATIO is no number it is none (BODIES begin as ever).");
        int[][] bodies = { { 8 }, { 8, 9 }, { 8, 9, 10 }, {}, { 11 }, { 11, 12 } };
        for (int kind : TUNED) {
            Player x = let(NO_NUMBER, and(SEVEN, y -> y.tune(kind, 0, 0)), y -> y.frequency(kind));
            for (int b = 0; b <= 16; b++) {
                int due = 0;
                for (int done : bodies[kind]) due += done == b ? 1 : 0;
                is(x, x.trace(b), due);
            }
        }
        says("MUTE is what has a FREQUENCY that is no number.");
        for (int kind : TUNED) {
            let(0, SEVEN, y -> y.mute(kind));
            let(0, and(SEVEN, y -> y.tune(kind, 0, 1)), y -> y.mute(kind));
            let(1, and(SEVEN, y -> y.tune(kind, 0, 0)), y -> y.mute(kind));
            let(0, and(and(SEVEN, y -> y.tune(kind, 0, 0)), y -> y.tune(kind, 1, 1)), y -> y.mute(kind));
        }
    }

    private static void couplers() {
        says("COUPLER: the greatest of those of its MEMBERS that are a number (a DRUM has none); none, if there are none such.");
        let(NO_NUMBER, SEVEN, x -> x.frequency(COUPLER));
        Make drum = and(SEVEN, x -> x.couple(COUPLER, DRUM));
        let(NO_NUMBER, drum, x -> x.frequency(COUPLER));
        Make silent = and(and(drum, x -> x.tune(PIPE, 0, 0)), x -> x.couple(COUPLER, PIPE));
        let(NO_NUMBER, silent, x -> x.frequency(COUPLER));
        // The least number there is, behind and ahead of none.
        Make zero = and(and(silent, x -> x.tune(REED, 0, 1)), x -> x.couple(COUPLER, REED));
        let(0L, and(zero, x -> x.couple(COUPLER, PIPE)), x -> x.frequency(COUPLER));
        let(Double.doubleToLongBits(440.25), and(zero, x -> x.couple(COUPLER, BELL)), x -> x.frequency(COUPLER));
        // The greatest first, last, and under another coupler.
        for (int first : new int[] { BELL, BASS }) {
            Player x = seven();
            x.instrument(COUPLER);
            x.couple(COUPLER, first);
            x.couple(COUPLER, PIPE);
            x.couple(COUPLER, BELL + BASS - first);
            x.couple(7, COUPLER);
            is(x, x.frequency(COUPLER), Double.doubleToLongBits(440.25), 0);
            is(x, x.frequency(7), Double.doubleToLongBits(440.25), 0);
        }
    }

    // ---- promises 16 to 26

    private static void promise16() {
        says("An INSTRUMENT: its number. BAD: kind is not 0 .. 6; BUSY, FULL.");
        within(0, 6, () -> rolls(1), (x, v) -> x.instrument(v));
        let(59, () -> instruments(59), x -> x.instrument(0));
        refused(FULL, () -> instruments(60), x -> x.instrument(0));
        refused(BAD, () -> instruments(60), x -> x.instrument(7));
        refused(BUSY, playing(() -> instruments(60)), x -> x.instrument(0));
        refused(BUSY, playing(() -> instruments(0)), x -> x.instrument(0));
        refused(BAD, playing(() -> instruments(60)), x -> x.instrument(-1));
    }

    private static void promise17() {
        says("A COUPLER gets a MEMBER behind the others (one it may have more than once): how many it has.");
        for (int n = 0; n < 8; n++) {
            int had = n;
            let(n + 1, () -> coupled(had), x -> x.couple(0, 1));
        }
        says("BAD: also itself, or one that has it as a MEMBER (or a MEMBER's, and so on)");
        within(0, 5, SEVEN, (x, v) -> x.couple(COUPLER, v));
        refused(BAD, SEVEN, x -> x.couple(7, PIPE));
        refused(BAD, SEVEN, x -> x.couple(-1, PIPE));
        refused(BAD, SEVEN, x -> x.couple(MIN, PIPE));
        refused(BAD, SEVEN, x -> x.couple(MAX, PIPE));
        refused(BAD, SEVEN, x -> x.couple(COUPLER, COUPLER));
        refused(BAD, SEVEN, x -> x.couple(PIPE, PIPE));
        // 0 over 1 over 2 over 3.
        Make chain = () -> {
            Player x = rolls(1);
            for (int i = 0; i < 4; i++) x.instrument(COUPLER);
            for (int i = 0; i < 3; i++) x.couple(i, i + 1);
            return x;
        };
        for (int under = 0; under < 4; under++) {
            for (int over = 0; over < 4; over++) {
                int u = under;
                int o = over;
                if (over <= under) refused(BAD, chain, x -> x.couple(u, o));
                else let(under == 3 ? 1 : 2, chain, x -> x.couple(u, o));
            }
        }
        says("KIND: it is no COUPLER; then FULL: 8, or some SIZE would be above 40.");
        for (int kind = 0; kind < 6; kind++) {
            int k = kind;
            refused(KIND, SEVEN, x -> x.couple(k, COUPLER));
        }
        refused(FULL, () -> coupled(8), x -> x.couple(0, 1));
    }

    private static void promise17Order() {
        says("and so on); BUSY; KIND: it is no COUPLER; then FULL: 8, or some SIZE would be above 40.");
        Make full = () -> coupled(8);
        refused(BAD, full, x -> x.couple(0, 0));
        refused(BAD, playing(full), x -> x.couple(0, 0));
        refused(BAD, playing(full), x -> x.couple(0, 2));
        refused(BUSY, playing(full), x -> x.couple(0, 1));
        refused(BUSY, playing(SEVEN), x -> x.couple(PIPE, REED));
        // One that has it as a member is BAD, be it a coupler itself or not.
        refused(BAD, full, x -> x.couple(1, 0));
        refused(BAD, playing(full), x -> x.couple(1, 0));
        // Eight members and a size too large at once; a size too large with members to spare.
        refused(FULL, and(() -> sized(37), x -> x.couple(2, 1)), x -> x.couple(2, 1));
    }

    private static void promise18() {
        says("A CHEST of n PLACES: its number. BAD: kind is not 0 .. 7; BUSY; FULL; SIZE.");
        for (int n : new int[] { 0, 1, 200 }) {
            Player x = let(0, SEVEN, y -> y.chest(7, n));
            is(x, x.count(7), n);
            is(x, x.place(0, n, 0), TORN, 2);
            is(x, x.place(0, n - 1, 0), n == 0 ? TORN : 1);
        }
        within(0, 7, SEVEN, (x, v) -> x.chest(v, 200));
        refused(SIZE, SEVEN, x -> x.chest(0, -1));
        refused(SIZE, SEVEN, x -> x.chest(0, MIN));
        refused(FULL, SEVEN, x -> x.chest(0, 201));
        refused(FULL, SEVEN, x -> x.chest(0, MAX));
        refused(BAD, SEVEN, x -> x.chest(8, -1));
        refused(BAD, SEVEN, x -> x.chest(-1, 201));
        // Full of chests: whatever n is. Full of places: less than nothing is not too much.
        for (int n : new int[] { MIN, -1, 0, 1, MAX }) {
            refused(FULL, () -> chests(16, 0), x -> x.chest(0, n));
            refused(BUSY, playing(() -> chests(16, 0)), x -> x.chest(0, n));
            refused(BAD, playing(() -> chests(16, 0)), x -> x.chest(8, n));
        }
        refused(SIZE, () -> chests(1, 200), x -> x.chest(0, -1));
        refused(SIZE, () -> chests(1, 200), x -> x.chest(0, MIN));
        refused(BUSY, playing(() -> chests(1, 1)), x -> x.chest(0, -1));
    }

    private static void promise19() {
        says("An INSTRUMENT (-1: nothing) comes to PLACE i of a CHEST: 1. BAD, BUSY; TORN, STORE.");
        Make two = () -> {
            Player x = seven();
            x.chest(7, 3);
            x.chest(DRUM, 2);
            x.place(1, 0, DRUM);
            x.wire(0, 1, 0);
            x.wire(7, 0, 2);
            return x;
        };
        within(0, 1, two, (x, v) -> x.place(v, 0, DRUM));
        within(-1, 6, two, (x, v) -> x.place(0, 0, v));
        within(TORN, 0, 2, two, (x, v) -> x.place(0, v, PIPE));
        within(TORN, 0, 2, two, (x, v) -> x.place(0, v, -1));
        refused(STORE, two, x -> x.place(1, 0, PIPE));
        refused(STORE, two, x -> x.place(1, 1, COUPLER));
        let(1, two, x -> x.place(1, 0, -1));
        refused(TORN, two, x -> x.place(1, 2, PIPE));
        refused(TORN, two, x -> x.place(1, -1, PIPE));
        refused(BAD, two, x -> x.place(1, 2, 7));
        refused(BAD, two, x -> x.place(2, 2, PIPE));
        refused(BAD, two, x -> x.place(0, 9, -2));
        refused(BUSY, playing(two), x -> x.place(1, 2, PIPE));
        refused(BUSY, playing(two), x -> x.place(1, 0, PIPE));
        refused(BUSY, playing(two), x -> x.place(1, 0, -1));
        refused(BAD, playing(two), x -> x.place(1, 0, 7));
        // A chest without places has none to take, nor to empty.
        Make none = and(SEVEN, x -> x.chest(7, 0));
        refused(TORN, none, x -> x.place(0, 0, PIPE));
        refused(TORN, none, x -> x.place(0, 0, -1));
    }

    private static void promise20() {
        says("A TRACK's WIRE goes to PLACE i, any number, of a CHEST (-1: it has none): 1. BAD, BUSY.");
        Make two = () -> {
            Player x = chests(2, 1);
            x.place(0, 0, PIPE);
            for (int track = 0; track < 8; track++) x.wire(track, 0, 0);
            return x;
        };
        within(0, 7, two, (x, v) -> x.wire(v, 1, 0));
        within(-1, 1, two, (x, v) -> x.wire(0, v, 0));
        for (int i : new int[] { MIN, -1, 0, 1, 200, MAX }) {
            let(1, two, x -> x.wire(0, 1, i));
            let(1, two, x -> x.wire(0, -1, i));
            Player x = and(two, y -> y.wire(7, 0, i)).one();
            x.strip(0, 0, 0, 1, 1);
            x.punch(0, 0, 0, 128);
            x.play(0);
            x.tick(1);
            is(x, x.open(7), i == 0 ? 1 : 0);
            is(x, x.event(1, 0), i == 0 ? 1 : 3);
            is(x, x.event(1, 3), i == 0 ? 7 : 2);
        }
        refused(BAD, SEVEN, x -> x.wire(0, 0, 0));
        let(1, SEVEN, x -> x.wire(0, -1, 0));
        refused(BUSY, playing(two), x -> x.wire(0, -1, 0));
        refused(BUSY, playing(two), x -> x.wire(0, 1, 0));
        refused(BUSY, playing(two), x -> x.wire(0, 0, 1));
        refused(BAD, two, x -> x.wire(0, 2, 1));
        refused(BAD, two, x -> x.wire(0, -2, 1));
        refused(BAD, playing(two), x -> x.wire(8, 1, 0));
        refused(BAD, playing(two), x -> x.wire(0, 2, 0));
    }

    private static void promise21() {
        says("An INSTRUMENT is to SPOIL after n openings (0: it is not): n that it had. BAD: n is not 0 .. 1000; BUSY.");
        for (int kind = 0; kind < 7; kind++) {
            Player x = seven();
            is(x, x.spoil(kind, 1000), 0, 0);
            is(x, x.spoil(kind, 1), 1000, 0);
            is(x, x.spoil(kind, 0), 1, 0);
            is(x, x.spoil(kind, 0), 0, 0);
        }
        Make set = and(SEVEN, x -> x.spoil(3, 7));
        within(0, 1000, set, (x, v) -> x.spoil(3, v));
        within(0, 6, set, (x, v) -> x.spoil(v, 9));
        refused(BUSY, playing(set), x -> x.spoil(3, 0));
        refused(BAD, playing(set), x -> x.spoil(3, 1001));
        refused(BAD, playing(set), x -> x.spoil(7, 0));
    }

    private static void promise22() {
        says("RATIO p / q: 1; 0, if it is no number. BAD: p, q are not 0 .. 1000, or q alone is 0; BUSY; KIND: it has none.");
        for (int kind : TUNED) {
            within(0, 1000, SEVEN, (x, v) -> x.tune(kind, v, 1));
            within(1, 1000, SEVEN, (x, v) -> x.tune(kind, 1, v));
            within(0, 0, SEVEN, (x, v) -> x.tune(kind, v, 0));
            within(0, 1000, SEVEN, (x, v) -> x.tune(kind, 0, v));
            let(0, SEVEN, x -> x.tune(kind, 0, 0));
            let(1, SEVEN, x -> x.tune(kind, 0, 1));
            let(1, SEVEN, x -> x.tune(kind, 1000, 1000));
            refused(BAD, SEVEN, x -> x.tune(kind, 1, 0));
            refused(BAD, SEVEN, x -> x.tune(kind, 1000, 0));
            refused(BUSY, playing(SEVEN), x -> x.tune(kind, 0, 0));
            refused(BAD, playing(SEVEN), x -> x.tune(kind, 1, 0));
        }
        for (int kind : new int[] { DRUM, COUPLER }) {
            refused(KIND, SEVEN, x -> x.tune(kind, 1, 1));
            refused(KIND, SEVEN, x -> x.tune(kind, 0, 0));
            refused(BAD, SEVEN, x -> x.tune(kind, 1, 0));
            refused(BAD, SEVEN, x -> x.tune(kind, 1001, 1));
            refused(BUSY, playing(SEVEN), x -> x.tune(kind, 1, 1));
        }
        for (int number : new int[] { -1, 7, MIN, MAX }) {
            refused(BAD, SEVEN, x -> x.tune(number, 1, 1));
        }
    }

    private static void promise23() {
        says("BASE is v / 16.0: 1. BAD: v is not 1 .. 32000; BUSY.");
        within(1, 32000, SEVEN, (x, v) -> x.base(v));
        for (int v : new int[] { 1, 2, 16, 31999, 32000 }) {
            Player x = let(1, SEVEN, y -> y.base(v));
            is(x, x.frequency(PIPE), Double.doubleToLongBits(v / 16.0));
        }
        refused(BUSY, playing(SEVEN), x -> x.base(1));
        refused(BAD, playing(SEVEN), x -> x.base(0));
    }

    private static void promise24() {
        says("FREQUENCY, as Double.doubleToLongBits tells it (no number: 0x7ff8000000000000). BAD; KIND: a DRUM.");
        withinLong(0, 6, SEVEN, (x, v) -> x.frequency(v));
        refusedLong(KIND, SEVEN, x -> x.frequency(DRUM));
        refusedLong(KIND, playing(SEVEN), x -> x.frequency(DRUM));
        refusedLong(BAD, Player::new, x -> x.frequency(0));
        let(NO_NUMBER, SEVEN, x -> x.frequency(COUPLER));
        let(0L, and(SEVEN, x -> x.tune(PIPE, 0, 1)), x -> x.frequency(PIPE));
        // Powers of two, and the doubles right below and above what stands there.
        at(PIPE, 16, 1, 1, 1.0);
        at(PIPE, 16, 1, 2, 0.5);
        at(PIPE, 32000, 512, 1000, 1024.0);
        at(PIPE, 1, 1, 1000, 0.0625 * (1.0 / 1000.0));
        at(PIPE, 32000, 1000, 1, 2000000.0);
        at(PIPE, 32, 1, 3, 2.0 * (1.0 / 3.0));
        at(PIPE, 16, 999, 1000, 999.0 / 1000.0);
        at(PIPE, 16, 1000, 999, 1000.0 / 999.0);
    }

    private static void promise25() {
        says("Whether it is MUTE: 1, 0. BAD; KIND: a DRUM.");
        refused(KIND, SEVEN, x -> x.mute(DRUM));
        for (int number : new int[] { -1, 7, MIN, MAX }) {
            refused(BAD, SEVEN, x -> x.mute(number));
        }
        refused(BAD, Player::new, x -> x.mute(0));
        let(0, SEVEN, x -> x.mute(PIPE));
        let(1, SEVEN, x -> x.mute(COUPLER));
        let(1, and(SEVEN, x -> x.couple(COUPLER, DRUM)), x -> x.mute(COUPLER));
        let(0, and(SEVEN, x -> x.couple(COUPLER, PIPE)), x -> x.mute(COUPLER));
        let(0, playing(SEVEN), x -> x.mute(BELL));
    }

    private static void promise26() {
        says("By their FREQUENCIES (that of the first, then of the other one): 1 the first is higher, 2 as high, 3 lower; 0 none of these.");
        // The least that can be between two: 1 / 1000 of a sixteenth, and of the same number none.
        Make near = and(and(and(SEVEN, x -> x.base(1)), x -> x.tune(PIPE, 999, 1000)), x -> x.couple(COUPLER, PIPE));
        let(3, and(near, x -> x.tune(PLUCKED, 1000, 1)), x -> x.higher(PIPE, PLUCKED));
        let(1, and(near, x -> x.tune(REED, 1, 1)), x -> x.higher(PIPE, REED));
        let(2, near, x -> x.higher(PIPE, COUPLER));
        let(2, near, x -> x.higher(COUPLER, PIPE));
        let(2, near, x -> x.higher(PIPE, PIPE));
        let(1, and(near, x -> x.tune(REED, 0, 1)), x -> x.higher(PIPE, REED));
        let(3, and(near, x -> x.tune(REED, 0, 1)), x -> x.higher(REED, PIPE));
        let(0, SEVEN, x -> x.higher(PIPE, COUPLER));
        let(0, SEVEN, x -> x.higher(COUPLER, PIPE));
        let(0, SEVEN, x -> x.higher(COUPLER, COUPLER));
        let(0, and(SEVEN, x -> x.tune(PIPE, 0, 0)), x -> x.higher(PIPE, PIPE));
        says("BAD; KIND: one is a DRUM (ahead of both).");
        for (int kind = 0; kind < 7; kind++) {
            int k = kind;
            Make asked = and(SEVEN, x -> x.higher(k, DRUM));
            refused(KIND, SEVEN, x -> x.higher(k, DRUM));
            refused(KIND, SEVEN, x -> x.higher(DRUM, k));
            Player x = asked.one();
            for (int b = 8; b < 14; b++) is(x, x.trace(b), 0);
        }
        for (int number : new int[] { -1, 7, MIN, MAX }) {
            refused(BAD, SEVEN, x -> x.higher(DRUM, number));
            refused(BAD, SEVEN, x -> x.higher(number, DRUM));
            refused(BAD, SEVEN, x -> x.higher(number, number));
        }
    }
}
