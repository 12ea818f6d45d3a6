/** Promises 16 to 26: instruments. */
final class InstrumentsTest {
    private static final int PIPE = 0, REED = 1, BASS = 2, DRUM = 3, PLUCKED = 4, BELL = 5, COUPLER = 6;
    private static final long NO_NUMBER = 0x7ff8000000000000L;

    public static void main(String[] args) {
        promise16();
        promise17();
        promise17Sizes();
        promise18();
        promise19();
        promise20();
        promise20AtFirst();
        promise21();
        promise22();
        promise23();
        promise24();
        promise24Couplers();
        promise25();
        promise26();
        bodiesOfFrequency();
        Due.end("InstrumentsTest");
    }

    /** One instrument of each kind, its number being its kind. */
    private static RollPlayer seven() {
        RollPlayer x = new RollPlayer();
        for (int kind = 0; kind < 7; kind++) x.instrument(kind);
        return x;
    }

    private static void startPlaying(RollPlayer x) {
        x.roll();
        x.play(x.count(0) - 1);
    }

    private static void promise16() {
        RollPlayer x = new RollPlayer();
        Due.refused(x, x.instrument(-1), Due.BAD);
        Due.refused(x, x.instrument(7), Due.BAD);
        for (int i = 0; i < 60; i++) Due.is(x, x.instrument(i % 7), i, 0);
        Due.refused(x, x.instrument(0), Due.FULL);
        Due.refused(x, x.instrument(7), Due.BAD);
        Due.is(x.count(1), 60);
        Due.refused(x, x.mute(60), Due.BAD);
        startPlaying(x);
        Due.refused(x, x.instrument(0), Due.BUSY);
        Due.refused(x, x.instrument(7), Due.BAD);
    }

    private static void promise17() {
        RollPlayer x = seven();
        x.instrument(COUPLER);
        x.instrument(COUPLER);
        for (int kind = 0; kind < 6; kind++) Due.is(x, x.couple(COUPLER, kind), kind + 1, 0);
        Due.is(x.couple(COUPLER, PIPE), 7);
        Due.is(x.couple(COUPLER, PIPE), 8);
        Due.refused(x, x.couple(COUPLER, PIPE), Due.FULL);
        Due.is(x.members(COUPLER), 8);
        Due.is(x.frequency(COUPLER), Double.doubleToLongBits(440.25));
        for (int kind = 0; kind < 6; kind++) {
            Due.refused(x, x.couple(kind, 7), Due.KIND);
            Due.refused(x, x.couple(kind, kind), Due.BAD);
        }
        Due.refused(x, x.couple(COUPLER, 9), Due.BAD);
        Due.refused(x, x.couple(9, PIPE), Due.BAD);
        Due.refused(x, x.couple(COUPLER, -1), Due.BAD);
        Due.refused(x, x.couple(-1, PIPE), Due.BAD);
        Due.refused(x, x.couple(COUPLER, COUPLER), Due.BAD);
        Due.is(x.couple(7, COUPLER), 1);
        Due.is(x.couple(8, 7), 1);
        Due.refused(x, x.couple(COUPLER, 7), Due.BAD);
        Due.refused(x, x.couple(COUPLER, 8), Due.BAD);
        Due.refused(x, x.couple(7, 8), Due.BAD);
        // A member's member may stand in its own right, too.
        Due.is(x.couple(8, COUPLER), 2);
        startPlaying(x);
        Due.refused(x, x.couple(8, PIPE), Due.BUSY);
        Due.refused(x, x.couple(PIPE, DRUM), Due.BUSY);
        // That has it as a member's member, which comes first.
        Due.refused(x, x.couple(PIPE, 8), Due.BAD);
        Due.refused(x, x.couple(8, 8), Due.BAD);
        Due.is(x.members(8), 2);
    }

    private static void promise17Sizes() {
        RollPlayer x = new RollPlayer();
        for (int i = 0; i < 4; i++) x.instrument(COUPLER);
        x.instrument(DRUM);
        // Sizes: 3 has 1, 2 has 1 and 8 times 1, 1 has 1 and 4 times 9.
        for (int i = 0; i < 8; i++) x.couple(2, 3);
        for (int i = 0; i < 4; i++) x.couple(1, 2);
        Due.is(x.couple(0, 1), 1);
        // 0 has 38; what comes to 3 comes 32 times to it.
        Due.refused(x, x.couple(3, 4), Due.FULL);
        Due.is(x.members(3), 0);
        Due.is(x.couple(0, 4), 2);
        Due.is(x.couple(0, 4), 3);
        Due.refused(x, x.couple(0, 4), Due.FULL);
        // 1 alone could hold more, but 0 holds it.
        Due.refused(x, x.couple(1, 4), Due.FULL);

        RollPlayer y = new RollPlayer();
        for (int i = 0; i < 41; i++) y.instrument(COUPLER);
        for (int i = 0; i < 39; i++) Due.is(y.couple(i, i + 1), 1);
        Due.refused(y, y.couple(39, 40), Due.FULL);
        Due.refused(y, y.couple(39, 0), Due.BAD);
        Due.is(y.couple(40, 1), 1);
        Due.refused(y, y.couple(40, 39), Due.FULL);
        Due.is(y.frequency(0), NO_NUMBER);
        Due.is(y.trace(13), 40);
    }

    private static void promise18() {
        RollPlayer x = new RollPlayer();
        Due.refused(x, x.chest(-1, 1), Due.BAD);
        Due.refused(x, x.chest(8, 1), Due.BAD);
        Due.refused(x, x.chest(0, -1), Due.SIZE);
        Due.refused(x, x.chest(0, Due.MIN), Due.SIZE);
        Due.refused(x, x.chest(0, 201), Due.FULL);
        Due.refused(x, x.chest(0, Due.MAX), Due.FULL);
        Due.is(x, x.chest(0, 0), 0, 0);
        x.instrument(PIPE);
        Due.refused(x, x.place(0, 0, 0), Due.TORN);
        Due.is(x.chest(7, 199), 1);
        Due.refused(x, x.chest(0, 2), Due.FULL);
        Due.is(x.chest(0, 1), 2);
        Due.refused(x, x.chest(0, -1), Due.SIZE);
        Due.is(x.count(7), 200);
        for (int i = 3; i < 16; i++) Due.is(x.chest(i % 8, 0), i);
        Due.refused(x, x.chest(0, 0), Due.FULL);
        Due.refused(x, x.chest(0, -1), Due.FULL);
        Due.is(x.count(2), 16);
        Due.refused(x, x.place(16, 0, 0), Due.BAD);
        startPlaying(x);
        Due.refused(x, x.chest(0, 0), Due.BUSY);
        Due.refused(x, x.chest(0, -1), Due.BUSY);
        Due.refused(x, x.chest(8, 0), Due.BAD);
    }

    private static void promise19() {
        String[] takes = { "012", "12", "2", "3", "45", "5", "6", "0123456" };
        for (int kind = 0; kind < 8; kind++) {
            RollPlayer x = seven();
            x.chest(kind, 2);
            for (int it = 0; it < 7; it++) {
                boolean fits = takes[kind].indexOf('0' + it) >= 0;
                Due.refused(x, x.place(0, 2, it), Due.TORN);
                Due.refused(x, x.place(0, -1, it), Due.TORN);
                Due.refused(x, x.place(0, Due.MAX, it), Due.TORN);
                if (fits) Due.is(x, x.place(0, 1, it), 1, 0);
                else Due.refused(x, x.place(0, 1, it), Due.STORE);
            }
            Due.is(x, x.place(0, 0, -1), 1, 0);
            Due.refused(x, x.place(0, 2, -1), Due.TORN);
        }
        RollPlayer x = seven();
        for (int kind = 0; kind < 8; kind++) x.chest(kind, 2);
        Due.refused(x, x.place(8, 0, 0), Due.BAD);
        Due.refused(x, x.place(-1, 0, 0), Due.BAD);
        Due.refused(x, x.place(0, 0, 7), Due.BAD);
        Due.refused(x, x.place(0, 9, -2), Due.BAD);
        startPlaying(x);
        Due.refused(x, x.place(0, 0, 0), Due.BUSY);
        Due.refused(x, x.place(0, 9, 0), Due.BUSY);
        Due.refused(x, x.place(0, 0, 7), Due.BAD);
        x.halt();

        // The place holds what came latest, and keeps it where a chest takes no such thing.
        x.place(7, 0, PIPE);
        x.place(7, 0, BELL);
        x.place(0, 0, REED);
        x.place(0, 0, BELL);
        x.wire(0, 7, 0);
        x.wire(1, 0, 0);
        x.wire(2, 7, 1);
        x.place(7, 1, -1);
        x.strip(0, 0, 0, 1, 1);
        x.punch(0, 0, 0, 7);
        x.play(0);
        x.tick(1);
        Due.is(x.count(4), 2);
        Due.is(x.sounding(0, 0), BELL);
        Due.is(x.sounding(1, 0), REED);
    }

    private static void promise20() {
        RollPlayer x = seven();
        Due.refused(x, x.wire(0, 0, 0), Due.BAD);
        x.chest(7, 1);
        x.place(0, 0, PIPE);
        Due.refused(x, x.wire(-1, 0, 0), Due.BAD);
        Due.refused(x, x.wire(8, 0, 0), Due.BAD);
        Due.refused(x, x.wire(0, 1, 0), Due.BAD);
        Due.refused(x, x.wire(0, -2, 0), Due.BAD);
        Due.is(x, x.wire(0, 0, Due.MIN), 1, 0);
        Due.is(x, x.wire(1, 0, Due.MAX), 1, 0);
        Due.is(x.wire(2, 0, 0), 1);
        Due.is(x.wire(3, 0, 0), 1);
        Due.is(x, x.wire(3, -1, 0), 1, 0);
        Due.is(x.wire(7, 0, -1), 1);
        Due.is(x.wire(7, 0, 0), 1);
        x.roll();
        x.strip(0, 0, 0, 1, 1);
        x.punch(0, 0, 0, 255);
        x.play(0);
        Due.refused(x, x.wire(2, -1, 0), Due.BUSY);
        Due.refused(x, x.wire(8, -1, 0), Due.BAD);
        Due.refused(x, x.wire(0, 1, 0), Due.BAD);
        x.tick(1);
        Due.is(x.count(4), 2);
        Due.is(x.sounding(0, 1), 2);
        Due.is(x.sounding(1, 1), 7);
        Due.is(x.open(3), 0);
        Due.is(x.event(1, 0), 3);
        Due.is(x.event(1, 2), 0);
        Due.is(x.event(1, 3), 2);
        Due.is(x.event(2, 2), 1);
        Due.is(x.event(2, 3), 2);
    }

    /** No track has a wire at first. */
    private static void promise20AtFirst() {
        RollPlayer x = seven();
        x.chest(7, 1);
        x.place(0, 0, PIPE);
        x.roll();
        x.strip(0, 0, 0, 1, 1);
        x.punch(0, 0, 0, 255);
        x.play(0);
        x.tick(1);
        Due.is(x.count(3), 1);
        for (int t = 0; t < 8; t++) Due.is(x.open(t), 0);
    }

    private static void promise21() {
        RollPlayer x = seven();
        Due.is(x, x.spoil(PIPE, 3), 0, 0);
        Due.is(x, x.spoil(PIPE, 1000), 3, 0);
        Due.is(x, x.spoil(PIPE, 0), 1000, 0);
        Due.is(x, x.spoil(PIPE, 2), 0, 0);
        Due.is(x.spoil(COUPLER, 1), 0);
        Due.refused(x, x.spoil(PIPE, -1), Due.BAD);
        Due.refused(x, x.spoil(PIPE, 1001), Due.BAD);
        Due.refused(x, x.spoil(7, 1), Due.BAD);
        Due.refused(x, x.spoil(-1, 1), Due.BAD);
        x.chest(7, 1);
        x.place(0, 0, PIPE);
        x.wire(0, 0, 0);
        x.roll();
        x.strip(0, 0, 0, 6, 6);
        for (int k = 0; k < 6; k += 2) x.punch(0, 0, k, 1);
        x.play(0);
        Due.refused(x, x.spoil(PIPE, 1), Due.BUSY);
        Due.refused(x, x.spoil(PIPE, 1001), Due.BAD);
        // Two openings: the second one fails; from then on it is to spoil no more.
        x.tick(1);
        Due.is(x.open(0), 1);
        x.tick(2);
        Due.is(x.open(0), 0);
        Due.is(x.event(3, 0), 3);
        Due.is(x.event(3, 3), 10);
        x.tick(2);
        Due.is(x.open(0), 1);
        Due.is(x.times(PIPE, 0), 2);
        x.halt();
        Due.is(x.spoil(PIPE, 5), 0);
        x.play(0);
        x.tick(3);
        x.halt();
        Due.is(x.spoil(PIPE, 0), 3);

        // What is not to spoil stays so, however often it is opened.
        for (int kind = 0; kind < 7; kind++) {
            x.spoil(kind, 0);
            x.place(0, 0, kind);
            x.play(0);
            Due.is(x.tick(500), 6);
            Due.is(x.times(kind, 0), 3);
            Due.is(x.spoil(kind, 0), 0);
        }
    }

    private static void promise22() {
        RollPlayer x = seven();
        for (int kind = 0; kind < 7; kind++) {
            boolean none = kind == DRUM || kind == COUPLER;
            Due.refused(x, x.tune(kind, -1, 1), Due.BAD);
            Due.refused(x, x.tune(kind, 1, -1), Due.BAD);
            Due.refused(x, x.tune(kind, 1001, 1), Due.BAD);
            Due.refused(x, x.tune(kind, 1, 1001), Due.BAD);
            Due.refused(x, x.tune(kind, 1, 0), Due.BAD);
            Due.refused(x, x.tune(kind, 1000, 0), Due.BAD);
            if (none) {
                Due.refused(x, x.tune(kind, 1, 1), Due.KIND);
                Due.refused(x, x.tune(kind, 0, 0), Due.KIND);
            } else {
                Due.is(x, x.tune(kind, 0, 0), 0, 0);
                Due.is(x.mute(kind), 1);
                Due.is(x, x.tune(kind, 0, 1000), 1, 0);
                Due.is(x.mute(kind), 0);
                Due.is(x, x.tune(kind, 1000, 1000), 1, 0);
            }
        }
        Due.refused(x, x.tune(7, 1, 1), Due.BAD);
        Due.refused(x, x.tune(-1, 1, 1), Due.BAD);
        x.tune(PIPE, 3, 2);
        Due.is(x.frequency(PIPE), Double.doubleToLongBits(660.0));
        startPlaying(x);
        Due.refused(x, x.tune(PIPE, 1, 1), Due.BUSY);
        Due.refused(x, x.tune(DRUM, 1, 1), Due.BUSY);
        Due.refused(x, x.tune(PIPE, 1, 0), Due.BAD);
        Due.is(x.frequency(PIPE), Double.doubleToLongBits(660.0));
    }

    private static void promise23() {
        RollPlayer x = seven();
        Due.refused(x, x.base(0), Due.BAD);
        Due.refused(x, x.base(32001), Due.BAD);
        Due.refused(x, x.base(Due.MIN), Due.BAD);
        Due.is(x.frequency(PIPE), Double.doubleToLongBits(440.0));
        Due.is(x, x.base(1), 1, 0);
        Due.is(x.frequency(PIPE), Double.doubleToLongBits(0.0625));
        Due.is(x, x.base(32000), 1, 0);
        Due.is(x.frequency(PIPE), Double.doubleToLongBits(2000.0));
        startPlaying(x);
        Due.refused(x, x.base(16), Due.BUSY);
        Due.refused(x, x.base(0), Due.BAD);
        Due.is(x.frequency(PIPE), Double.doubleToLongBits(2000.0));
    }

    private static double due(int kind, double base, int p, int q) {
        double f = base * ((double) p / (double) q);
        switch (kind) {
            case PIPE: return f;
            case REED: return f / 2.0;
            case BASS: return Math.floor(f / 2.0 * 4.0) / 4.0;
            case PLUCKED: return Math.rint(f * 8.0) / 8.0;
            default: return Math.floor(Math.rint(f * 8.0) / 8.0) + 0.25;
        }
    }

    private static void promise24() {
        int[] bases = { 1, 2, 3, 16, 333, 7040, 7041, 9999, 31999, 32000 };
        int[][] ratios = { { 0, 1 }, { 1, 1 }, { 1, 1000 }, { 1000, 1 }, { 3, 7 }, { 7, 3 }, { 999, 1000 }, { 1, 16 },
            { 3, 16 }, { 5, 16 }, { 1, 3 }, { 355, 113 }, { 17, 19 } };
        for (int kind : new int[] { PIPE, REED, BASS, PLUCKED, BELL }) {
            for (int v : bases) {
                RollPlayer x = seven();
                for (int[] r : ratios) {
                    x.base(v);
                    x.tune(kind, r[0], r[1]);
                    Due.is(x, x.frequency(kind), Double.doubleToLongBits(due(kind, v / 16.0, r[0], r[1])), 0);
                }
            }
            RollPlayer x = seven();
            x.tune(kind, 0, 0);
            Due.is(x, x.frequency(kind), NO_NUMBER, 0);
        }
        RollPlayer x = seven();
        // Halves of an eighth go to the even one: 0.5, 1.5, 2.5 eighths.
        x.base(1);
        Due.is(x.frequency(PLUCKED), Double.doubleToLongBits(0.0));
        x.base(3);
        Due.is(x.frequency(PLUCKED), Double.doubleToLongBits(0.25));
        x.base(5);
        Due.is(x.frequency(PLUCKED), Double.doubleToLongBits(0.25));
        x.base(7);
        Due.is(x.frequency(PLUCKED), Double.doubleToLongBits(0.5));
        Due.is(x, x.frequency(DRUM), 0, 5);
        Due.is(x, x.frequency(7), 0, Due.BAD);
        Due.is(x, x.frequency(-1), 0, Due.BAD);
        startPlaying(x);
        Due.is(x.frequency(REED), Double.doubleToLongBits(7 / 32.0));
    }

    private static void promise24Couplers() {
        RollPlayer x = seven();
        x.instrument(COUPLER);
        Due.is(x, x.frequency(COUPLER), NO_NUMBER, 0);
        x.couple(COUPLER, DRUM);
        x.couple(COUPLER, REED);
        x.couple(COUPLER, PLUCKED);
        x.couple(COUPLER, BASS);
        x.couple(7, DRUM);
        x.couple(7, COUPLER);
        Due.is(x.frequency(7), Double.doubleToLongBits(440.0));
        x.tune(PLUCKED, 0, 0);
        Due.is(x.frequency(7), Double.doubleToLongBits(220.0));
        x.tune(REED, 0, 7);
        Due.is(x.frequency(7), Double.doubleToLongBits(220.0));
        x.tune(BASS, 0, 0);
        Due.is(x.frequency(7), Double.doubleToLongBits(0.0));
        x.tune(REED, 0, 0);
        Due.is(x.frequency(7), NO_NUMBER);
        x.couple(7, PIPE);
        Due.is(x.frequency(7), Double.doubleToLongBits(440.0));
        Due.is(x.frequency(COUPLER), NO_NUMBER);
    }

    private static void promise25() {
        RollPlayer x = seven();
        for (int kind = 0; kind < 6; kind++) {
            if (kind != DRUM) Due.is(x, x.mute(kind), 0, 0);
        }
        Due.is(x, x.mute(COUPLER), 1, 0);
        x.couple(COUPLER, DRUM);
        Due.is(x.mute(COUPLER), 1);
        x.couple(COUPLER, BELL);
        Due.is(x.mute(COUPLER), 0);
        x.tune(BELL, 0, 0);
        Due.is(x.mute(BELL), 1);
        Due.is(x.mute(COUPLER), 1);
        x.tune(BELL, 0, 1);
        Due.is(x.mute(BELL), 0);
        Due.refused(x, x.mute(DRUM), Due.KIND);
        Due.refused(x, x.mute(7), Due.BAD);
        Due.refused(x, x.mute(-1), Due.BAD);
        startPlaying(x);
        Due.is(x.mute(BELL), 0);
    }

    private static void promise26() {
        RollPlayer x = seven();
        Due.is(x, x.higher(PIPE, REED), 1, 0);
        Due.is(x.higher(REED, PIPE), 3);
        Due.is(x.higher(REED, BASS), 2);
        Due.is(x.higher(PIPE, PIPE), 2);
        Due.is(x.higher(PIPE, COUPLER), 0);
        Due.is(x.higher(COUPLER, PIPE), 0);
        Due.is(x, x.higher(COUPLER, COUPLER), 0, 0);
        x.couple(COUPLER, PIPE);
        Due.is(x.higher(BELL, COUPLER), 1);
        x.tune(PIPE, 0, 1);
        x.tune(REED, 0, 2);
        Due.is(x.higher(PIPE, REED), 2);
        Due.is(x.higher(COUPLER, BASS), 3);
        int[] before = new int[17];
        for (int b = 0; b < 17; b++) before[b] = x.trace(b);
        Due.refused(x, x.higher(PIPE, DRUM), Due.KIND);
        Due.refused(x, x.higher(DRUM, PIPE), Due.KIND);
        Due.refused(x, x.higher(DRUM, 7), Due.BAD);
        Due.refused(x, x.higher(7, DRUM), Due.BAD);
        Due.refused(x, x.higher(PIPE, -1), Due.BAD);
        Due.refused(x, x.higher(-1, PIPE), Due.BAD);
        for (int b = 0; b < 17; b++) Due.is(x.trace(b), before[b]);
        startPlaying(x);
        Due.is(x.higher(BELL, PIPE), 1);
    }

    /** What each of frequency, mute and higher adds to the bodies 8 to 13; no number changes nothing there. */
    private static void bodiesOfFrequency() {
        int[][] adds = { { 1, 0, 0, 0, 0, 0 }, { 1, 1, 0, 0, 0, 0 }, { 1, 1, 1, 0, 0, 0 }, { 0, 0, 0, 0, 0, 0 },
            { 0, 0, 0, 1, 0, 0 }, { 0, 0, 0, 1, 1, 0 }, { 3, 2, 1, 2, 1, 1 } };
        for (int tuned = 0; tuned < 2; tuned++) {
            for (int kind = 0; kind < 7; kind++) {
                RollPlayer x = seven();
                for (int i = 0; i < 6; i++) {
                    x.couple(COUPLER, i);
                    if (tuned == 1) x.tune(i, 0, 0);
                }
                x.frequency(kind);
                x.mute(kind);
                x.higher(kind, kind);
                for (int b = 0; b < 17; b++) Due.is(x.trace(b), b < 8 || b > 13 ? 0 : 4 * adds[kind][b - 8]);
            }
        }
    }
}
