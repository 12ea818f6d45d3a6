/** Promises 27 to 38: playing. */
final class PlayingTest {
    private static final int PIPE = 0, REED = 1, BASS = 2, DRUM = 3, PLUCKED = 4, BELL = 5, COUPLER = 6;
    private static final int HOLES = 0, LEVELS = 1, STOPS = 2, TEMPO = 3;
    private static final int BEGAN = 0, OPENED = 1, ENDED = 2, FAILED = 3;

    public static void main(String[] args) {
        promise27();
        promise28();
        promise28NoTicksLeft();
        promise28Strips();
        promise28StripsOfNoTicks();
        promise28Findings();
        promise28Holes();
        promise28Couplers();
        promise28SpoiltCouplers();
        promise28StopsOfChests();
        promise28AsManyAsCan();
        promise29();
        promise30();
        promise30Far();
        promise30Everything();
        promise31And32();
        promise33();
        promise34();
        promise35();
        promise36();
        promise36Tempo();
        promise37();
        promise38();
        Due.end("PlayingTest");
    }

    /** One instrument of each kind, each in its own place of chest 0, and track t wired to place t. */
    private static RollPlayer organ() {
        RollPlayer x = new RollPlayer();
        x.chest(7, 7);
        for (int kind = 0; kind < 7; kind++) {
            x.instrument(kind);
            x.place(0, kind, kind);
            x.wire(kind, 0, kind);
        }
        x.roll();
        return x;
    }

    private static void strip(RollPlayer x, int kind, int ticks, int... elements) {
        int s = x.strip(0, kind, 1, elements.length, ticks);
        for (int k = 0; k < elements.length; k++) x.punch(0, s, k, elements[k]);
    }

    private static void event(RollPlayer x, int k, int sort, int gone, int of, int rest) {
        Due.is(x.event(k, 0), sort);
        Due.is(x.event(k, 1), gone);
        Due.is(x.event(k, 2), of);
        Due.is(x.event(k, 3), rest);
    }

    private static void sounds(RollPlayer x, int... instruments) {
        Due.is(x.count(4), instruments.length);
        for (int k = 0; k < instruments.length; k++) Due.is(x.sounding(k, 0), instruments[k]);
    }

    private static void promise27() {
        RollPlayer x = organ();
        Due.refused(x, x.play(1), Due.BAD);
        Due.refused(x, x.play(-1), Due.BAD);
        Due.is(x.at(7), 0);
        strip(x, HOLES, 2, 1, 0);
        strip(x, LEVELS, 1, -1);
        strip(x, STOPS, 1, 'a');
        strip(x, TEMPO, 1, 5 << 16 | 99);
        Due.is(x, x.play(0), 4, 0);
        Due.is(x.at(7), 1);
        Due.refused(x, x.play(0), Due.BUSY);
        Due.refused(x, x.play(1), Due.BAD);
        Due.is(x.tick(100), 5);
        Due.is(x.at(7), 0);
        Due.isTrue(x.count(3) > 0, "no events");

        // All begins anew.
        Due.is(x.play(0), 4);
        Due.is(x.count(3), 0);
        Due.is(x.count(4), 0);
        Due.is(x.times(PIPE, 0), 0);
        Due.is(x.times(PIPE, 1), 0);
        int[] at = { 24, 0, 0, 0, Due.NONE, 0, 0, 1, 5 };
        for (int what = 0; what < 9; what++) Due.is(x.at(what), at[what]);
        for (int t = 0; t < 8; t++) {
            Due.is(x.level(t), 1000);
            Due.is(x.open(t), Due.NONE);
        }
        for (int c = 0; c < 16; c++) Due.is(x.stop(c), 1);
        // What went on with the tempo goes on no more.
        x.tick(2);
        Due.is(x.at(0), 24);
        x.halt();
        x.roll();
        Due.is(x, x.play(1), 0, 0);
        Due.is(x.at(7), 1);
    }

    private static void promise28() {
        RollPlayer x = organ();
        Due.refused(x, x.tick(1), Due.NONE);
        Due.refused(x, x.tick(-1), Due.BAD);
        Due.refused(x, x.tick(501), Due.BAD);
        strip(x, HOLES, 3, 1);
        x.play(0);
        Due.refused(x, x.tick(501), Due.BAD);
        Due.refused(x, x.tick(-1), Due.BAD);
        Due.is(x, x.tick(0), 0, 0);
        Due.is(x.count(3), 0);
        Due.is(x, x.tick(2), 2, 0);
        Due.is(x, x.tick(1), 1, 0);
        // It is over only with the tick that finds no strip more.
        Due.is(x.at(7), 1);
        Due.is(x.tick(0), 0);
        Due.is(x.at(7), 1);
        sounds(x, PIPE);
        Due.is(x, x.tick(1), 0, 0);
        Due.is(x.at(7), 0);
        Due.is(x.at(8), 3);
        sounds(x);
        Due.refused(x, x.tick(1), Due.NONE);
        Due.refused(x, x.tick(501), Due.BAD);
        event(x, 2, ENDED, 3, PIPE, 0);
        Due.is(x.count(3), 3);
        Due.is(x.open(0), Due.NONE);
        x.play(0);
        Due.is(x.tick(500), 3);
        x.roll();
        x.play(1);
        Due.is(x, x.tick(500), 0, 0);
        Due.is(x.at(7), 0);
        Due.is(x.at(4), Due.NONE);
    }

    private static void promise28NoTicksLeft() {
        RollPlayer x = organ();
        for (int i = 0; i < 5; i++) strip(x, HOLES, 100, 1);
        int went = 0;
        for (int i = 0; i < 39; i++) {
            x.play(0);
            went += x.tick(500);
            x.halt();
        }
        Due.is(went, 19500);
        x.play(0);
        Due.is(x.tick(2), 2);
        Due.is(x.back(2), 0);
        // Going back gives no ticks back.
        Due.is(x.tick(500), 498);
        Due.is(x.at(8), 20000);
        int events = x.count(3);
        Due.is(x, x.tick(5), 0, 0);
        Due.is(x.at(7), 1);
        Due.is(x.count(3), events);
        Due.is(x.at(3), 498);
        Due.is(x.back(3), 495);
        Due.is(x.tick(1), 0);
        Due.is(x.at(3), 495);
        x.halt();
        x.roll();
        x.play(1);
        // Not even what finds that it is over is done then.
        Due.is(x.tick(1), 0);
        Due.is(x.at(7), 1);
        Due.is(x.halt(), 0);
    }

    private static void promise28Strips() {
        RollPlayer x = organ();
        strip(x, HOLES, 2, 1, 3, 7);
        strip(x, HOLES, 4, 2, 0);
        x.play(0);
        x.tick(1);
        sounds(x, PIPE);
        Due.is(x.at(4), 0);
        Due.is(x.at(5), 1);
        Due.is(x.at(6), 1);
        x.tick(1);
        sounds(x, PIPE, REED);
        Due.is(x.at(5), 2);
        // Its third element has no tick; the next strip goes on with what sounds.
        x.tick(1);
        sounds(x, REED);
        Due.is(x.at(4), 1);
        Due.is(x.at(5), 1);
        x.tick(1);
        sounds(x);
        // Ticks without elements change nothing.
        x.tick(2);
        Due.is(x.at(5), 4);
        Due.is(x.at(3), 6);
        event(x, 0, BEGAN, 0, 0, 0);
        event(x, 1, OPENED, 0, PIPE, 0);
        event(x, 2, OPENED, 1, REED, 1);
        event(x, 3, BEGAN, 2, 1, 0);
        event(x, 4, ENDED, 2, PIPE, 0);
        event(x, 5, ENDED, 3, REED, 1);
        Due.is(x.count(3), 6);
    }

    private static void promise28StripsOfNoTicks() {
        RollPlayer x = organ();
        strip(x, HOLES, 0, 1, 0, 2, 3);
        strip(x, LEVELS, 0, 0x0005, 0x1006);
        strip(x, STOPS, 0, 'b', 'c', 'B');
        strip(x, TEMPO, 0, 7, 2 << 16 | 11);
        strip(x, HOLES, 1, 2);
        strip(x, HOLES, 0, 4);
        x.play(0);
        Due.is(x.tick(1), 1);
        sounds(x, REED);
        Due.is(x.level(0), 5);
        Due.is(x.level(1), 6);
        Due.is(x.stop(1), 1);
        Due.is(x.stop(2), 0);
        Due.is(x.at(0), 9);
        Due.is(x.at(4), 4);
        event(x, 0, BEGAN, 0, 0, 0);
        event(x, 1, OPENED, 0, PIPE, 0);
        event(x, 2, ENDED, 0, PIPE, 0);
        event(x, 3, OPENED, 0, REED, 1);
        event(x, 4, OPENED, 0, PIPE, 0);
        event(x, 5, BEGAN, 0, 1, 0);
        event(x, 8, BEGAN, 0, 4, 0);
        event(x, 9, ENDED, 0, PIPE, 0);
        Due.is(x.count(3), 10);
        // The last one does its elements, then the roll is over: no tick.
        Due.is(x.tick(1), 0);
        event(x, 10, BEGAN, 1, 5, 0);
        event(x, 11, ENDED, 1, REED, 1);
        event(x, 12, OPENED, 1, BASS, 2);
        event(x, 13, ENDED, 1, BASS, 2);
        Due.is(x.count(3), 14);
        Due.is(x.at(4), 5);
        Due.is(x.at(5), 0);
        Due.is(x.at(6), 1);
        Due.is(x.at(3), 1);
    }

    private static void promise28Findings() {
        RollPlayer x = organ();
        strip(x, HOLES, 1, 3);
        strip(x, HOLES, 2, 7, 7);
        strip(x, HOLES, 1, 1);
        strip(x, TEMPO, 0, 3);
        strip(x, HOLES, 1, 1);
        x.damage(0, 1, 9, 8);
        x.lose(0, 3);
        x.play(0);
        x.tick(1);
        sounds(x, PIPE, REED);
        x.tick(1);
        sounds(x);
        Due.is(x.at(6), 0);
        Due.is(x.at(4), 1);
        Due.is(x.at(5), 1);
        Due.is(x.at(2), 2);
        for (int t = 0; t < 8; t++) Due.is(x.open(t), Due.NONE);
        event(x, 3, BEGAN, 1, 1, 9);
        event(x, 4, ENDED, 1, REED, 1);
        event(x, 5, ENDED, 1, PIPE, 0);
        x.tick(1);
        Due.is(x.at(5), 2);
        Due.is(x.at(3), 3);
        Due.is(x.count(3), 6);
        // Behind it what is wanted opens again.
        x.tick(1);
        sounds(x, PIPE);
        Due.is(x.at(6), 1);
        x.tick(1);
        event(x, 8, BEGAN, 4, 3, 1);
        event(x, 9, ENDED, 4, PIPE, 0);
        event(x, 10, BEGAN, 4, 4, 0);
        event(x, 11, OPENED, 4, PIPE, 0);
        Due.is(x.at(0), 24);
        sounds(x, PIPE);

        int[][] spoilings = { { 0, 1, 5 }, { 4, 4, 7 }, { 3, 0x80, 3 }, { 4, 1, 8 }, { 8, 1, 9 }, { -1, 0, 2 } };
        for (int[] s : spoilings) {
            RollPlayer y = organ();
            strip(y, HOLES, 1, 1);
            if (s[0] < 0) y.tear(0, 0, 8);
            else y.damage(0, 0, s[0], s[1]);
            y.play(0);
            Due.is(y, y.tick(1), 1, 0);
            event(y, 0, BEGAN, 0, 0, s[2]);
            Due.is(y.count(3), 1);
        }
    }

    private static void promise28Holes() {
        RollPlayer x = organ();
        x.chest(0, 2);
        x.wire(1, 1, 0);
        x.wire(2, 1, 2);
        x.wire(3, 1, -1);
        x.wire(4, -1, 0);
        x.wire(5, 0, PIPE);
        x.spoil(BELL, 1);
        x.wire(6, 0, BELL);
        strip(x, STOPS, 0, 'A', 'P', 'p');
        strip(x, HOLES, 1, 0xff);
        strip(x, STOPS, 1, 'a');
        strip(x, HOLES, 3, 0x20, 0x21, 0x20);
        strip(x, STOPS, 1, 'A');
        strip(x, HOLES, 3, 0x21, 0x01, 0x00);
        x.play(0);
        x.tick(1);
        // By tracks: 1 empty, 2 and 3 no such place, 4 and 7 no wire, 6 spoilt.
        event(x, 2, OPENED, 0, PIPE, 0);
        event(x, 3, FAILED, 0, 1, 1);
        event(x, 4, FAILED, 0, 2, 2);
        event(x, 5, FAILED, 0, 3, 2);
        event(x, 6, OPENED, 0, PIPE, 5);
        event(x, 7, FAILED, 0, 6, 10);
        Due.is(x.count(3), 8);
        for (int t = 0; t < 8; t++) Due.is(x.open(t), t == 0 || t == 5 ? 1 : 0);
        sounds(x, PIPE, PIPE);
        x.tick(2);
        // A stop does not end what sounds; behind it nothing opens, and the hole is open all the same.
        sounds(x, PIPE);
        Due.is(x.sounding(0, 1), 5);
        Due.is(x.open(0), Due.NONE);
        x.tick(1);
        sounds(x, PIPE);
        Due.is(x.open(0), 0);
        x.tick(1);
        Due.is(x.open(0), Due.NONE);
        // Drawn again: only a hole that opens is heard.
        x.tick(2);
        sounds(x, PIPE, PIPE);
        Due.is(x.sounding(0, 1), 5);
        Due.is(x.sounding(1, 1), 0);
        x.tick(1);
        sounds(x, PIPE);
        Due.is(x.sounding(0, 1), 0);
        x.tick(1);
        sounds(x);
        Due.is(x.times(PIPE, 0), 3);
        Due.is(x.times(PIPE, 1), 3);
    }

    private static void promise28Couplers() {
        RollPlayer x = organ();
        x.instrument(COUPLER);
        x.couple(COUPLER, DRUM);
        x.couple(COUPLER, 7);
        x.couple(COUPLER, BELL);
        x.couple(7, PIPE);
        x.couple(7, PIPE);
        strip(x, HOLES, 4, 0x02, 0x42, 0x46, 0x04);
        x.play(0);
        x.tick(3);
        sounds(x, REED, COUPLER, DRUM, 7, PIPE, PIPE, BELL, BASS);
        Due.is(x.open(6), 6);
        for (int k = 1; k < 7; k++) Due.is(x.sounding(k, 1), 6);
        event(x, 2, OPENED, 1, COUPLER, 6);
        event(x, 3, OPENED, 1, DRUM, 6);
        event(x, 4, OPENED, 1, 7, 6);
        event(x, 5, OPENED, 1, PIPE, 6);
        event(x, 6, OPENED, 1, PIPE, 6);
        event(x, 7, OPENED, 1, BELL, 6);
        x.tick(1);
        // Track by track, of each the latest first.
        event(x, 9, ENDED, 3, REED, 1);
        int[] latestFirst = { BELL, PIPE, PIPE, 7, DRUM, COUPLER };
        for (int i = 0; i < 6; i++) event(x, 10 + i, ENDED, 3, latestFirst[i], 6);
        sounds(x, BASS);
        Due.is(x.trace(14), 8);
        Due.is(x.trace(15), 2);
        Due.is(x.trace(16), 7);
        Due.is(x.times(PIPE, 0), 2);
        Due.is(x.times(PIPE, 1), 2);
    }

    private static void promise28SpoiltCouplers() {
        RollPlayer x = organ();
        x.instrument(COUPLER);
        x.couple(COUPLER, DRUM);
        x.couple(COUPLER, 7);
        x.couple(COUPLER, BELL);
        x.couple(7, PIPE);
        x.couple(7, REED);
        x.couple(7, BASS);
        strip(x, HOLES, 5, 0x10, 0x50, 0x10, 0x50, 0x10);
        // The member of a member fails at its first opening.
        x.spoil(REED, 1);
        x.play(0);
        x.tick(2);
        sounds(x, PLUCKED);
        Due.is(x.open(6), 0);
        int[] opened = { COUPLER, DRUM, 7, PIPE };
        for (int i = 0; i < 4; i++) event(x, 2 + i, OPENED, 1, opened[i], 6);
        int[] ended = { PIPE, 7, DRUM, COUPLER };
        for (int i = 0; i < 4; i++) event(x, 6 + i, ENDED, 1, ended[i], 6);
        event(x, 10, FAILED, 1, 6, 10);
        Due.is(x.count(3), 11);
        Due.is(x.trace(14), 6);
        Due.is(x.trace(15), 2);
        Due.is(x.trace(16), 4);
        Due.is(x.times(REED, 0), 0);
        Due.is(x.times(REED, 1), 0);
        Due.is(x.times(COUPLER, 0), 1);
        Due.is(x.times(COUPLER, 1), 1);
        // It is spoilt just once.
        x.tick(2);
        sounds(x, PLUCKED, COUPLER, DRUM, 7, PIPE, REED, BASS, BELL);
        x.halt();

        // A coupler that is spoilt itself opens no member, and both bodies are done.
        x.spoil(7, 1);
        int any = x.trace(14);
        int couplers = x.trace(15);
        x.play(0);
        x.tick(2);
        Due.is(x.trace(14), any + 4);
        Due.is(x.trace(15), couplers + 2);
        Due.is(x.times(PIPE, 0), 0);
        Due.is(x.times(7, 0), 0);
        event(x, 6, FAILED, 1, 6, 10);
        x.halt();
    }

    private static void promise28StopsOfChests() {
        for (int c = 0; c < 16; c++) {
            RollPlayer x = new RollPlayer();
            for (int i = 0; i < 16; i++) x.chest(7, 1);
            x.instrument(PIPE);
            x.place(c, 0, PIPE);
            x.wire(3, c, 0);
            x.roll();
            strip(x, STOPS, 0, 'a' + c);
            strip(x, HOLES, 2, 8, 0);
            strip(x, STOPS, 0, 'A' + c);
            for (int i = 0; i < 16; i++) strip(x, STOPS, 0, i == c ? '?' : 'a' + i);
            strip(x, HOLES, 1, 8);
            x.play(0);
            x.tick(1);
            sounds(x);
            Due.is(x.open(3), 0);
            x.tick(2);
            sounds(x, PIPE);
        }
    }

    /** As many as can sound: of each track a coupler of the size 40, in a chain as deep. */
    private static void promise28AsManyAsCan() {
        RollPlayer x = new RollPlayer();
        x.roll();
        x.chest(6, 2);
        for (int i = 0; i < 40; i++) x.instrument(COUPLER);
        for (int i = 0; i < 39; i++) Due.is(x.couple(i, i + 1), 1);
        for (int i = 40; i < 43; i++) x.instrument(COUPLER);
        x.instrument(BELL);
        for (int i = 0; i < 8; i++) x.couple(41, 43);
        for (int i = 0; i < 4; i++) x.couple(40, 41);
        for (int i = 0; i < 3; i++) Due.is(x.couple(40, 43), 5 + i);
        x.place(0, 0, 0);
        x.place(0, 1, 40);
        for (int t = 0; t < 8; t++) x.wire(t, 0, t % 2);
        strip(x, HOLES, 3, 0xff, 0x7e, 0xff);
        x.play(0);
        x.tick(1);
        Due.is(x.count(4), 320);
        for (int t = 0; t < 8; t++) Due.is(x.open(t), 40);
        for (int k = 0; k < 40; k++) {
            Due.is(x.sounding(k, 0), k);
            Due.is(x.sounding(k, 1), 0);
            Due.is(x.sounding(280 + k, 1), 7);
        }
        Due.is(x.sounding(319, 0), 43);
        Due.is(x.count(3), 321);
        x.tick(1);
        Due.is(x.count(4), 240);
        Due.is(x.sounding(0, 1), 1);
        Due.is(x.sounding(0, 0), 40);
        Due.is(x.sounding(239, 1), 6);
        Due.is(x.sounding(239, 0), 39);
        event(x, 322, ENDED, 1, 39 - 1, 0);
        event(x, 321, ENDED, 1, 39, 0);
        x.tick(1);
        Due.is(x.count(4), 320);
        Due.is(x.sounding(319, 0), 43);
        Due.is(x.sounding(319, 1), 7);
        Due.is(x.sounding(319, 2), 1);
        Due.is(x.sounding(0, 2), 3);
        Due.is(x.back(1), 2);
        Due.is(x.count(4), 240);
        Due.is(x.back(1), 1);
        Due.is(x.count(4), 320);
        Due.is(x.sounding(319, 0), 43);
        Due.is(x.sounding(319, 1), 7);
        Due.is(x.halt(), 320);
        Due.is(x.times(43, 0), 4 * 35);
        Due.is(x.times(43, 1), 4 * 35);

        // The deepest one fails: all that came are ended.
        x.spoil(39, 1);
        x.play(0);
        x.tick(1);
        Due.is(x.count(4), 280);
        Due.is(x.open(0), 0);
        event(x, 1, OPENED, 0, 0, 0);
        event(x, 39, OPENED, 0, 38, 0);
        event(x, 40, ENDED, 0, 38, 0);
        event(x, 78, ENDED, 0, 0, 0);
        event(x, 79, FAILED, 0, 0, 10);
    }

    private static void promise29() {
        RollPlayer x = organ();
        Due.refused(x, x.halt(), Due.NONE);
        strip(x, HOLES, 2, 7, 5);
        x.play(0);
        Due.is(x, x.halt(), 0, 0);
        Due.is(x.at(7), 0);
        Due.refused(x, x.halt(), Due.NONE);
        x.play(0);
        x.tick(2);
        Due.is(x, x.halt(), 2, 0);
        event(x, 5, ENDED, 2, BASS, 2);
        event(x, 6, ENDED, 2, PIPE, 0);
        Due.is(x.count(3), 7);
        Due.is(x.count(4), 0);
        for (int t = 0; t < 8; t++) Due.is(x.open(t), Due.NONE);
        Due.is(x.at(7), 0);
        Due.is(x.at(3), 2);
        Due.is(x.at(4), 0);
        Due.is(x.at(5), 2);
        Due.is(x.at(6), 1);
        Due.refused(x, x.tick(1), Due.NONE);
        Due.refused(x, x.back(0), Due.NONE);
        Due.is(x.roll(), 1);
    }

    private static void promise30() {
        RollPlayer x = organ();
        Due.refused(x, x.back(0), Due.NONE);
        Due.refused(x, x.back(-1), Due.BAD);
        Due.refused(x, x.back(501), Due.BAD);
        strip(x, HOLES, 4, 1, 3, 7, 6);
        strip(x, TEMPO, 4, 4 << 16 | 28);
        x.play(0);
        Due.is(x, x.back(0), 0, 0);
        Due.refused(x, x.back(1), Due.NONE);
        Due.refused(x, x.back(501), Due.BAD);
        x.tick(6);
        Due.is(x.at(0), 26);
        Due.is(x, x.back(0), 6, 0);
        Due.is(x.at(0), 26);
        Due.is(x, x.back(1), 5, 0);
        Due.is(x.at(0), 25);
        Due.is(x.at(4), 1);
        Due.is(x.at(5), 1);
        // What goes on goes on from there.
        x.tick(3);
        Due.is(x.at(0), 28);
        Due.is(x.back(5), 3);
        Due.is(x.at(4), 0);
        Due.is(x.at(0), 24);
        sounds(x, PIPE, REED, BASS);
        Due.is(x.times(PIPE, 1), 0);
        Due.is(x.count(3), 4);
        Due.refused(x, x.event(4, 0), Due.NONE);
        Due.refused(x, x.back(4), Due.NONE);
        Due.is(x.back(3), 0);
        sounds(x);
        Due.is(x.at(4), Due.NONE);
        Due.is(x.at(6), 0);
        Due.is(x.count(3), 0);
        Due.is(x.at(8), 9);
        Due.refused(x, x.back(1), Due.NONE);
        Due.is(x.tick(500), 8);
        Due.refused(x, x.back(1), Due.NONE);
        Due.is(x.at(8), 17);
        // What was kept of one roll is not of the next one.
        x.play(0);
        Due.refused(x, x.back(1), Due.NONE);
    }

    private static void promise30Far() {
        RollPlayer x = organ();
        for (int i = 0; i < 5; i++) strip(x, HOLES, 256, 1, 2, 4, 8);
        x.play(0);
        x.tick(500);
        Due.is(x, x.back(500), 0, 0);
        x.tick(500);
        x.tick(1);
        Due.is(x.at(3), 501);
        // 501 are kept: from 1 to 501.
        Due.is(x.back(500), 1);
        sounds(x, PIPE);
        Due.refused(x, x.back(1), Due.NONE);
        x.tick(2);
        sounds(x, BASS);
        // What it went back over is kept no more: from 1 to 3 now.
        Due.refused(x, x.back(3), Due.NONE);
        Due.is(x.back(1), 2);
        Due.is(x.back(1), 1);
        x.tick(500);
        x.tick(500);
        Due.is(x.at(3), 1001);
        Due.is(x.back(250), 751);
        // From 501 to 751.
        Due.refused(x, x.back(251), Due.NONE);
        Due.is(x.back(250), 501);
        Due.is(x.tick(500), 500);
        Due.is(x.back(500), 501);
        Due.is(x.at(8), 500 + 501 + 2 + 1000 + 500);
    }

    /** Much that changes, tick by tick, 22 ticks long. */
    private static RollPlayer busyRoll() {
        RollPlayer x = organ();
        x.couple(COUPLER, PLUCKED);
        x.couple(COUPLER, BELL);
        x.spoil(BELL, 3);
        x.spoil(PIPE, 2);
        strip(x, HOLES, 6, 0x41, 0x00, 0x41, 0x00, 0x41, 0x01);
        strip(x, LEVELS, 2, 0x1007, -2);
        strip(x, STOPS, 2, 'a', 'p');
        strip(x, TEMPO, 9, 3 << 16 | 3, 0, 9, 0, 3 << 16 | 1);
        x.lose(0, x.strip(0, HOLES, 1, 1, 2));
        strip(x, HOLES, 2, 0xff);
        x.play(0);
        return x;
    }

    private static void promise30Everything() {
        String[] then = new String[23];
        for (int i = 0; i <= 22; i++) {
            RollPlayer x = busyRoll();
            Due.is(x.tick(i), i);
            then[i] = dump(x);
        }
        for (int from = 22; from > 0; from -= 3) {
            for (int n = 1; n <= from; n += 2) {
                RollPlayer x = busyRoll();
                x.tick(from);
                Due.is(x.back(n), from - n);
                Due.isTrue(dump(x).equals(then[from - n]), "not as it was at " + (from - n));
                // And from there on as it went the first time.
                RollPlayer y = busyRoll();
                y.tick(from);
                y.back(n);
                Due.is(y.tick(n), n);
                Due.isTrue(dump(y).equals(then[from]), "not as it was at " + from + " the second time");
            }
        }
        RollPlayer x = busyRoll();
        for (int i = 0; i < 10; i++) {
            x.tick(22);
            x.back(22);
        }
        x.halt();
        // Back at the beginning it is to spoil as it was then.
        Due.is(x.spoil(BELL, 0), 3);
        Due.is(x.spoil(PIPE, 0), 2);
        // What is done is not undone.
        Due.isTrue(x.trace(14) > 50, "trace(14) went back");
    }

    /** All that is told of what is played, but at(8) and trace. */
    private static String dump(RollPlayer x) {
        StringBuilder s = new StringBuilder();
        for (int i = 0; i < 8; i++) s.append(x.at(i)).append(' ').append(x.level(i)).append(' ').append(x.open(i)).append(' ');
        for (int i = 0; i < 16; i++) s.append(x.stop(i)).append(' ');
        for (int i = 0; i < 7; i++) s.append(x.times(i, 0)).append(' ').append(x.times(i, 1)).append(' ');
        int sounds = x.count(4);
        for (int k = 0; k <= sounds; k++) {
            for (int w = 0; w < 3; w++) s.append(x.sounding(k, w)).append(' ');
        }
        int events = x.count(3);
        for (int k = 0; k <= events; k++) {
            for (int w = 0; w < 4; w++) s.append(x.event(k, w)).append(' ');
        }
        return s.toString();
    }

    private static void promise31And32() {
        RollPlayer x = organ();
        Due.refused(x, x.open(-1), Due.BAD);
        Due.refused(x, x.open(8), Due.BAD);
        Due.refused(x, x.open(0), Due.NONE);
        Due.refused(x, x.sounding(0, 0), Due.NONE);
        Due.refused(x, x.sounding(0, 3), Due.BAD);
        Due.refused(x, x.sounding(0, -1), Due.BAD);
        Due.refused(x, x.sounding(-1, 0), Due.BAD);
        x.couple(COUPLER, PIPE);
        strip(x, HOLES, 4, 0x80, 0xc0, 0xc0, 0xc2);
        x.play(0);
        x.tick(1);
        Due.is(x, x.open(7), 0, 0);
        Due.refused(x, x.open(6), Due.NONE);
        x.tick(1);
        Due.is(x, x.open(6), 2, 0);
        Due.is(x, x.sounding(0, 0), COUPLER, 0);
        Due.is(x.sounding(0, 1), 6);
        Due.is(x.sounding(0, 2), 1);
        Due.is(x.sounding(1, 0), PIPE);
        Due.is(x.sounding(1, 1), 6);
        x.tick(2);
        Due.is(x.sounding(1, 2), 3);
        Due.is(x.sounding(2, 0), REED);
        Due.is(x.sounding(2, 1), 1);
        Due.is(x.sounding(2, 2), 1);
        Due.refused(x, x.sounding(3, 0), Due.NONE);
        Due.refused(x, x.sounding(Due.MAX, 0), Due.NONE);
        Due.refused(x, x.sounding(3, 3), Due.BAD);
        Due.refused(x, x.sounding(Due.MIN, 0), Due.BAD);
    }

    private static void promise33() {
        RollPlayer x = loudRoll();
        Due.refused(x, x.loud(-1), Due.BAD);
        Due.refused(x, x.loud(0), Due.NONE);
        x.play(0);
        x.tick(1);
        sounds(x, PIPE, REED, BASS, DRUM, PLUCKED, BELL, COUPLER, BELL);
        Due.refused(x, x.loud(8), Due.NONE);
        Due.refused(x, x.loud(Due.MAX), Due.NONE);
        Due.refused(x, x.loud(Due.MIN), Due.BAD);
        // 14 stops are drawn: the air is 17. The coupler's bell has the level of its track.
        int[][] bodies = { { 0, 6, 8 }, { 0, 1, 6, 8, 9 }, { 0, 1, 6, 7, 8, 9, 10 }, { 2 }, { 3, 11 }, { 3, 4, 11, 12 },
            { 5, 11, 12, 13 }, { 3, 4, 11, 12 } };
        louder(loudRoll(), 1, new int[] { 1017, 124, 1041, 0, 17, 23, 0, 1001 }, bodies);
        louder(loudRoll(), 4, new int[] { 1017, 124, 1041, 0, 2, 18, 0, 996 }, bodies);
        louder(loudRoll(), 7, new int[] { 1017, 124, 1041, 0, 0, 18, 0, 996 }, bodies);

        // Mute ones: their frequency is asked for, their loud is not.
        RollPlayer mute = loudRoll();
        for (int kind = 0; kind < 6; kind++) mute.tune(kind, 0, 0);
        int[][] asked = { { 8 }, { 8, 9 }, { 8, 9, 10 }, { 2 }, { 11 }, { 11, 12 }, { 11, 12, 13 }, { 11, 12 } };
        louder(mute, 1, new int[8], asked);
    }

    private static RollPlayer loudRoll() {
        RollPlayer x = organ();
        strip(x, STOPS, 0, 'b', 'p', 'q', '@', 'Q', '`');
        strip(x, LEVELS, 0, 1 << 12 | 100, 4 << 12 | 22, 5 << 12 | 22);
        strip(x, HOLES, 9, 0x7f);
        x.couple(COUPLER, BELL);
        x.spoil(PIPE, 9);
        return x;
    }

    private static void louder(RollPlayer x, int ticks, int[] due, int[][] bodies) {
        x.play(0);
        x.tick(ticks);
        for (int k = 0; k < 8; k++) louder(x, k, due[k], bodies[k]);
    }

    private static void louder(RollPlayer x, int k, int due, int[] bodies) {
        int[] before = new int[17];
        for (int b = 0; b < 17; b++) before[b] = x.trace(b);
        Due.is(x, x.loud(k), due, 0);
        for (int b : bodies) before[b]++;
        for (int b = 0; b < 17; b++) Due.is(x.trace(b), before[b]);
    }

    private static void promise34() {
        RollPlayer x = organ();
        Due.refused(x, x.level(-1), Due.BAD);
        Due.refused(x, x.level(8), Due.BAD);
        Due.is(x, x.level(7), 0, 0);
        strip(x, LEVELS, 4, 0x0000, 0x7fff, 0x3801, 0x8123);
        x.play(0);
        Due.is(x, x.level(0), 1000, 0);
        x.tick(1);
        Due.is(x.level(0), 0);
        Due.is(x.level(1), 1000);
        x.tick(1);
        Due.is(x.level(7), 4095);
        x.tick(1);
        Due.is(x.level(3), 0x801);
        Due.is(x.level(7), 4095);
        Due.is(x.level(4), 1000);
        x.tick(1);
        for (int t = 0; t < 8; t++) Due.is(x.level(t), 0x123);
        x.tick(1);
        Due.is(x.at(7), 0);
        for (int t = 0; t < 8; t++) Due.is(x.level(t), 0x123);
    }

    private static void promise35() {
        RollPlayer x = organ();
        Due.refused(x, x.stop(-1), Due.BAD);
        Due.refused(x, x.stop(16), Due.BAD);
        Due.is(x, x.stop(15), 0, 0);
        strip(x, STOPS, 0, 'a', 'p', 'h', 'q', 'A' + 256, 'o' + 65536, '`', '@', 'Q', 'Z');
        strip(x, STOPS, 1, 'P');
        strip(x, STOPS, 1, 'A', 'b');
        x.play(0);
        for (int c = 0; c < 16; c++) Due.is(x.stop(c), 1);
        x.tick(1);
        for (int c = 0; c < 16; c++) Due.is(x.stop(c), c == 0 || c == 7 || c == 14 ? 0 : 1);
        x.tick(9);
        for (int c = 0; c < 16; c++) Due.is(x.stop(c), c == 7 || c == 14 ? 0 : 1);
        Due.is(x.at(7), 0);
    }

    private static void promise36() {
        RollPlayer x = organ();
        Due.refused(x, x.at(-1), Due.BAD);
        Due.refused(x, x.at(9), Due.BAD);
        Due.refused(x, x.at(4), Due.NONE);
        strip(x, TEMPO, 7, 3);
        strip(x, HOLES, 2);
        x.lose(0, 1);
        x.play(0);
        Due.refused(x, x.at(4), Due.NONE);
        int[] beats = { 0, 0, 1, 1, 1, 2, 2, 2, 3 };
        int[] phases = { 1, 2, 0, 1, 2, 0, 1, 2, 0 };
        for (int i = 0; i < 9; i++) {
            x.tick(1);
            int[] at = { 3, beats[i], phases[i], i + 1, i < 7 ? 0 : 1, i < 7 ? i + 1 : i - 6, i < 7 ? 1 : 0, 1, i + 1 };
            for (int what = 0; what < 9; what++) Due.is(x, x.at(what), at[what], 0);
        }
        x.tick(1);
        // Over: as it was then, even if the strip is another one later.
        x.seal(0, 1);
        x.tear(0, 0, 3);
        int[] at = { 3, 3, 0, 9, 1, 2, 0, 0, 9 };
        for (int what = 0; what < 9; what++) Due.is(x, x.at(what), at[what], 0);
        x.mend(0, 1, 0);
        x.play(0);
        x.tick(1);
        Due.is(x.at(8), 10);
        Due.is(x.at(0), 24);
        Due.is(x.at(6), 0);
    }

    private static void promise36Tempo() {
        // From 24 to 31 in 4: 7 k / 4 with halves up: 1.75, 3.5, 5.25, 7.
        tempi(new int[] { 4 << 16 | 31 }, 26, 28, 29, 31, 31);
        // Downward, halves up as well: -1.75, -3.5, -5.25, -7.
        tempi(new int[] { 4 << 16 | 17 }, 22, 21, 19, 17, 17);
        tempi(new int[] { 2 << 16 | 23 }, 24, 23, 23);
        tempi(new int[] { 2 << 16 | 25 }, 25, 25, 25);
        tempi(new int[] { 1 << 16 | 65535 }, 65535, 65535);
        tempi(new int[] { 5 }, 5, 5);
        // Nothing, while it goes on and while it does not.
        tempi(new int[] { 0, 4 << 16, 4 << 16 | 28, 0, 9 << 16 }, 24, 24, 25, 26, 27, 28, 28);
        // At once, in the midst; then nothing goes on.
        tempi(new int[] { 4 << 16 | 28, 10 }, 25, 10, 10, 10);
        // Anew, from what it is by then.
        tempi(new int[] { 4 << 16 | 28, 0, 2 << 16 | 6 }, 25, 26, 16, 6, 6);
        // As far and as long as can be: exactly, beyond an int.
        tempi(new int[] { 65535, 0xffff0000 | 1 }, 65535, 65534, 65533, 65532);
        RollPlayer x = organ();
        strip(x, TEMPO, 0, 65535, 0xffff0000 | 1);
        for (int i = 0; i < 4; i++) strip(x, HOLES, 250);
        x.play(0);
        x.tick(500);
        x.tick(500);
        Due.is(x.at(0), 65535 + Math.floorDiv(-65534L * 1000 * 2 + 65535, 2 * 65535L));
        // A tempo below the phase: a beat at once.
        RollPlayer y = organ();
        strip(y, HOLES, 9);
        strip(y, TEMPO, 2, 4);
        y.play(0);
        y.tick(9);
        Due.is(y.at(2), 9);
        y.tick(1);
        Due.is(y.at(1), 1);
        Due.is(y.at(2), 0);
    }

    private static void tempi(int[] elements, int... due) {
        RollPlayer x = organ();
        strip(x, TEMPO, 50, elements);
        x.play(0);
        for (int t : due) {
            x.tick(1);
            Due.is(x.at(0), t);
        }
    }

    private static void promise37() {
        RollPlayer x = organ();
        Due.refused(x, x.times(7, 0), Due.BAD);
        Due.refused(x, x.times(-1, 0), Due.BAD);
        Due.refused(x, x.times(0, 2), Due.BAD);
        Due.refused(x, x.times(0, -1), Due.BAD);
        Due.is(x, x.times(0, 0), 0, 0);
        strip(x, HOLES, 5, 1, 0, 1, 2, 3);
        x.play(0);
        x.tick(5);
        Due.is(x, x.times(PIPE, 0), 3, 0);
        Due.is(x, x.times(PIPE, 1), 2, 0);
        Due.is(x.times(REED, 0), 1);
        Due.is(x.times(REED, 1), 0);
        x.tick(1);
        Due.is(x.times(PIPE, 1), 3);
        Due.is(x.times(REED, 1), 1);
        Due.is(x.times(BASS, 0), 0);
        x.play(0);
        Due.is(x.times(PIPE, 0), 0);
        Due.is(x.times(PIPE, 1), 0);
    }

    private static void promise38() {
        RollPlayer x = organ();
        Due.refused(x, x.event(0, 0), Due.NONE);
        Due.refused(x, x.event(-1, 0), Due.BAD);
        Due.refused(x, x.event(0, 4), Due.BAD);
        Due.refused(x, x.event(0, -1), Due.BAD);
        x.strip(0, HOLES, 1, 256, 250);
        x.punch(0, 0, 0, 0x2d);
        for (int n = 2; n < 256; n *= 2) x.copy(0, 0, 0, n, 0, 0, n);
        x.seal(0, 0);
        x.repeat(0, 0, 1);
        x.play(0);
        x.tick(373);
        // One for each of two strips, four for each tick.
        Due.is(x.count(3), 1494);
        x.tick(2);
        Due.is(x.count(3), 1502);
        event(x, 1499, OPENED, 374, BASS, 2);
        Due.refused(x, x.event(1500, 0), Due.NONE);
        Due.refused(x, x.event(1501, 3), Due.NONE);
        Due.refused(x, x.event(Due.MAX, 0), Due.NONE);
        Due.refused(x, x.event(Due.MIN, 0), Due.BAD);
        Due.refused(x, x.event(1500, 4), Due.BAD);
        Due.is(x, x.event(1498, 0), OPENED, 0);
        x.tick(100);
        Due.is(x.count(3), 1902);
        Due.is(x.back(101), 374);
        Due.is(x.count(3), 1498);
        Due.refused(x, x.event(1498, 0), Due.NONE);
        x.halt();
        Due.is(x.count(3), 1498);
        x.play(0);
        Due.refused(x, x.event(0, 0), Due.NONE);
    }
}
