/** What of section 3 is played, section 4, and promises 27 to 38: each sentence that names a boundary case. */
final class PlayingBoundsTest extends Bounds {
    private static final int PIPE = 0, REED = 1, BASS = 2, DRUM = 3, PLUCKED = 4, BELL = 5, COUPLER = 6;
    private static final int HOLES = 0, LEVELS = 1, STOPS = 2, TEMPO = 3;
    private static final int BEGAN = 0, OPENED = 1, ENDED = 2, FAILED = 3;

    public static void main(String[] args) {
        air();
        loudOfEachKind();
        bodies();
        bodiesOfOpening();
        toSpoil();
        toOpenCouplers();
        tracks();
        rollBegins();
        tickA();
        tickOver();
        stripBegins();
        stripWithFinding();
        stripOfNoTicks();
        tickB();
        tickC();
        holes();
        holesThatOpen();
        holesThatShut();
        levels();
        stops();
        tempo();
        tempoExactly();
        eventsKept();
        allTicks();
        promise27();
        promise28();
        promise29();
        promise30();
        promise30Kept();
        promise30AsItWas();
        promise31();
        promise32();
        promise33();
        promise34();
        promise35();
        promise36();
        promise37();
        promise38();
        Due.end("PlayingBoundsTest");
    }

    /** One instrument of each kind, each in its own place of chest 0, track t wired to place t; roll 0. */
    private static Player organ() {
        Player x = rolls(1);
        x.chest(7, 7);
        for (int kind = 0; kind < 7; kind++) {
            x.instrument(kind);
            x.place(0, kind, kind);
            x.wire(kind, 0, kind);
        }
        return x;
    }

    private static Player strip(Player x, int kind, int ticks, int... elements) {
        int s = x.strip(0, kind, 1, elements.length, ticks);
        for (int k = 0; k < elements.length; k++) x.punch(0, s, k, elements[k]);
        return x;
    }

    /** The organ with one strip, played, and so many ticks gone. */
    private static Make played(int ticks, int kind, int... elements) {
        return () -> {
            Player x = strip(organ(), kind, 256, elements);
            x.play(0);
            x.tick(ticks);
            return x;
        };
    }

    /** Strip 0 has these elements over and over, 256 in all. */
    private static void fill(Player x, int kind, int ticks, int... elements) {
        x.strip(0, kind, 1, 256, ticks);
        for (int k = 0; k < elements.length; k++) x.punch(0, 0, k, elements[k]);
        for (int n = elements.length; n < 256; n *= 2) x.copy(0, 0, 0, n, 0, 0, n);
        x.seal(0, 0);
    }

    /** The organ and so many strips of 256 ticks each, the first element of each opening a hole. */
    private static Player longRoll(int strips) {
        Player x = strip(organ(), HOLES, 256, 1, 0);
        for (int have = 1; have < strips;) have = x.repeat(0, 0, Math.min(8, Math.min(have, strips - have)));
        return x;
    }

    private static void go(Player x, int ticks) {
        for (int left = ticks; left > 0; left -= 500) x.tick(Math.min(500, left));
    }

    private static void event(Player x, int k, int sort, int gone, int of, int rest) {
        int[] due = { sort, gone, of, rest };
        for (int what = 0; what < 4; what++) is(x, x.event(k, what), due[what]);
    }

    private static void sounds(Player x, int... instruments) {
        is(x, x.count(4), instruments.length);
        for (int k = 0; k < instruments.length; k++) is(x, x.sounding(k, 0), instruments[k]);
    }

    // ---- section 3, as it is played

    private static void air() {
        says("AIR: PIPE: 3 and how many STOPS are drawn; BASS: 2 times as a PIPE.");
        for (int drawn : new int[] { 0, 1, 15, 16 }) {
            Player x = organ();
            x.spoil(PIPE, 900);
            int[] away = new int[16 - drawn];
            for (int i = 0; i < away.length; i++) away[i] = 'p' - i;
            // The holes open first: a stop that is not drawn takes the air of what sounds, not the sound.
            strip(x, HOLES, 0, 0x07);
            strip(x, STOPS, 0, away);
            strip(x, HOLES, 1, 0x07);
            x.play(0);
            x.tick(1);
            is(x, x.loud(0), 1000 + 3 + drawn, 0);
            is(x, x.loud(1), 1000 + 3 + drawn + 7, 0);
            is(x, x.loud(2), 1000 + 2 * (3 + drawn) + 7, 0);
        }
    }

    private static int loudAt(int kind, int level, int age) {
        Player x = organ();
        if (kind == COUPLER) x.couple(COUPLER, PIPE);
        strip(x, LEVELS, 0, kind << 12 | level);
        strip(x, HOLES, 256, 1 << kind);
        x.play(0);
        x.tick(age);
        is(x, x.sounding(0, 2), age);
        return x.loud(0);
    }

    private static void loudOfEachKind() {
        Player none = new Player();
        says("LOUD, by a level v and an age a: PIPE: v + AIR. REED: as a PIPE, and 7.");
        is(none, loudAt(PIPE, 0, 1), 19);
        is(none, loudAt(PIPE, 4095, 200), 4114);
        is(none, loudAt(REED, 0, 1), 26);
        is(none, loudAt(REED, 4095, 200), 4121);
        is(none, loudAt(BASS, 0, 1), 45);
        is(none, loudAt(BASS, 4095, 200), 4140);
        says("DRUM: 2 * v at age 0, else 0.");
        for (int age : new int[] { 1, 2, 200 }) is(none, loudAt(DRUM, 4095, age), 0);
        says("PLUCKED: v - 5 * a, at least 0.");
        int[][] plucked = { { 0, 1, 0 }, { 4, 1, 0 }, { 5, 1, 0 }, { 6, 1, 1 }, { 10, 2, 0 }, { 11, 2, 1 }, { 11, 3, 0 },
            { 4095, 1, 4090 }, { 4095, 250, 2845 }, { 1000, 199, 5 }, { 1000, 200, 0 }, { 1000, 201, 0 } };
        for (int[] p : plucked) is(none, loudAt(PLUCKED, p[0], p[1]), p[2]);
        says("BELL: as PLUCKED with a / 4 (cut off), and 1. COUPLER: 0.");
        int[][] bells = { { 0, 1, 1 }, { 0, 4, 1 }, { 5, 3, 6 }, { 5, 4, 1 }, { 6, 4, 2 }, { 6, 7, 2 }, { 6, 8, 1 },
            { 4095, 3, 4096 }, { 4095, 255, 4095 - 5 * 63 + 1 } };
        for (int[] b : bells) is(none, loudAt(BELL, b[0], b[1]), b[2]);
        is(none, loudAt(COUPLER, 0, 1), 0);
        is(none, loudAt(COUPLER, 4095, 7), 0);
    }

    private static void added(Player x, int[] before, int... bodies) {
        for (int b = 0; b < 17; b++) {
            int due = before[b];
            for (int body : bodies) due += body == b ? 1 : 0;
            is(x, x.trace(b), due);
        }
    }

    private static int[] traces(Player x) {
        int[] t = new int[17];
        for (int b = 0; b < 17; b++) t[b] = x.trace(b);
        return t;
    }

    private static void bodies() {
        says("BODIES: what is done for these, each for its KIND or the nearest that it is, too: LOUD of 0 PIPE, 1 REED, 2 DRUM, 3 PLUCKED, 4 BELL, 5 COUPLER; AIR of 6 PIPE, 7 BASS; FREQUENCY of 8 PIPE, 9 REED, 10 BASS, 11 PLUCKED, 12 BELL, 13 COUPLER");
        says("\"As a ..\" does that one's body, too, \"AIR\" that of its AIR.");
        int[][] loud = { { 0, 6, 8 }, { 1, 0, 6, 8, 9 }, { 1, 0, 7, 6, 8, 9, 10 }, { 2 }, { 3, 11 }, { 4, 3, 11, 12 },
            { 5, 13, 8 } };
        int[][] asked = { { 8 }, { 8, 9 }, { 8, 9, 10 }, { 2 }, { 11 }, { 11, 12 }, { 13, 8 } };
        for (int kind = 0; kind < 7; kind++) {
            for (int mute = 0; mute < 2; mute++) {
                Player x = organ();
                x.couple(COUPLER, PIPE);
                for (int i = 0; i < 7 && mute == 1; i++) x.tune(i, 0, 0);
                strip(x, HOLES, 1, 1 << kind);
                x.play(0);
                x.tick(1);
                int[] before = traces(x);
                int answer = x.loud(0);
                if (mute == 1) is(x, answer, 0, 0);
                added(x, before, mute == 1 ? asked[kind] : loud[kind]);
            }
        }
    }

    private static void bodiesOfOpening() {
        says("14 TO OPEN any, 15 TO OPEN a COUPLER (which does 14, too; both also if it is SPOILT then); 16 TO END any.");
        for (int spoilt = 0; spoilt < 2; spoilt++) {
            for (int kind = 0; kind < 7; kind++) {
                Player x = organ();
                x.spoil(kind, spoilt);
                strip(x, HOLES, 2, 1 << kind, 0);
                x.play(0);
                int[] none = new int[17];
                x.tick(1);
                added(x, none, kind == COUPLER ? new int[] { 14, 15 } : new int[] { 14 });
                int[] then = traces(x);
                x.tick(1);
                added(x, then, spoilt == 1 ? new int[0] : new int[] { 16 });
            }
        }
    }

    /** A pipe on all tracks, opened and shut over and over: eight openings by each two elements. */
    private static Player pipes(int spoil, int ticks) {
        Player x = rolls(1);
        x.instrument(PIPE);
        x.chest(7, 1);
        x.place(0, 0, 0);
        for (int track = 0; track < 8; track++) x.wire(track, 0, 0);
        x.spoil(0, spoil);
        fill(x, HOLES, ticks, 0xff, 0);
        x.play(0);
        return x;
    }

    private static void toSpoil() {
        says("TO OPEN one: if it is to SPOIL after n > 0 openings, n is one less; is it 0 then: SPOILT. Else it comes behind THOSE THAT SOUND.");
        for (int n = 1; n <= 9; n++) {
            Player x = pipes(n, 256);
            x.tick(1);
            is(x, x.count(4), n <= 8 ? 7 : 8);
            for (int track = 0; track < 8; track++) is(x, x.open(track), track == n - 1 ? 0 : 1);
            if (n <= 8) event(x, n, FAILED, 0, n - 1, 10);
            is(x, x.trace(14), 8);
            x.halt();
            is(x, x.spoil(0, 0), n <= 8 ? 0 : 1);
        }
        // 1000: the 999 ahead of it and the 24 behind it are opened.
        Player x = pipes(1000, 0);
        is(x, x.tick(1), 0, 0);
        is(x, x.trace(14), 1024);
        is(x, x.trace(16), 1023);
        is(x, x.times(0, 0), 1023);
        is(x, x.times(0, 1), 1023);
        is(x, x.spoil(0, 0), 0);
        // Not at all, whichever it is.
        Player all = SOUNDING.one();
        all.tick(250);
        all.halt();
        for (int i = 0; i < 7; i++) is(all, all.spoil(i, 0), 0, 0);
        Player y = pipes(0, 0);
        y.tick(1);
        is(y, y.times(0, 0), 1024);
        is(y, y.spoil(0, 0), 0);
        // What is left goes on with the next roll.
        Player z = pipes(1000, 2);
        z.tick(2);
        z.halt();
        z.play(0);
        z.tick(2);
        z.halt();
        is(z, z.spoil(0, 0), 984);
    }

    /** A coupler 8 with eight members 0 .. 7, drums; the one told spoils at once. */
    private static Player eight(int spoilt) {
        Player x = rolls(1);
        for (int i = 0; i < 8; i++) x.instrument(DRUM);
        x.instrument(COUPLER);
        for (int i = 0; i < 8; i++) x.couple(8, i);
        x.chest(7, 1);
        x.place(0, 0, 8);
        x.wire(0, 0, 0);
        if (spoilt >= 0) x.spoil(spoilt, 1);
        strip(x, HOLES, 3, 1, 0, 1);
        x.play(0);
        return x;
    }

    private static void toOpenCouplers() {
        says("A COUPLER then OPENS its MEMBERS, in order; cannot one, all that came by this COUPLER's opening and it itself are ENDED, the latest first, and it cannot for the same reason (each is OPENED and ENDED as any). TO END one: it leaves them.");
        Player good = eight(-1);
        good.tick(1);
        sounds(good, 8, 0, 1, 2, 3, 4, 5, 6, 7);
        good.tick(1);
        sounds(good);
        for (int k = 0; k < 9; k++) event(good, 10 + k, ENDED, 1, k < 8 ? 7 - k : 8, 0);
        for (int spoilt = 0; spoilt < 9; spoilt++) {
            Player x = eight(spoilt);
            x.tick(1);
            sounds(x);
            is(x, x.open(0), 0, 0);
            // The coupler and those ahead of the one that fails come and go; the coupler itself, if it is that one, does not.
            int came = spoilt == 8 ? 0 : spoilt + 1;
            for (int k = 0; k < came; k++) event(x, 1 + k, OPENED, 0, k == 0 ? 8 : k - 1, 0);
            for (int k = 0; k < came; k++) event(x, 1 + came + k, ENDED, 0, k == came - 1 ? 8 : came - 2 - k, 0);
            event(x, 1 + 2 * came, FAILED, 0, 0, 10);
            is(x, x.count(3), 2 + 2 * came);
            for (int i = 0; i < 9; i++) is(x, x.times(i, 0), x.times(i, 1));
            // Just once: the next time it opens.
            x.tick(2);
            sounds(x, 8, 0, 1, 2, 3, 4, 5, 6, 7);
        }
        // Without members it sounds alone.
        Player alone = played(1, HOLES, 1 << COUPLER).one();
        sounds(alone, COUPLER);
        // A member that stands there twice and spoils the second time.
        Player twice = organ();
        twice.couple(COUPLER, PIPE);
        twice.couple(COUPLER, PIPE);
        twice.spoil(PIPE, 2);
        strip(twice, HOLES, 1, 0x42);
        twice.play(0);
        twice.tick(1);
        sounds(twice, REED);
        event(twice, 2, OPENED, 0, COUPLER, 6);
        event(twice, 3, OPENED, 0, PIPE, 6);
        event(twice, 4, ENDED, 0, PIPE, 6);
        event(twice, 5, ENDED, 0, COUPLER, 6);
        event(twice, 6, FAILED, 0, 6, 10);
    }

    // ---- section 4

    private static void anew(Player x) {
        for (int track = 0; track < 8; track++) {
            is(x, x.open(track), NONE);
            is(x, x.level(track), 1000);
        }
        for (int chest = 0; chest < 16; chest++) is(x, x.stop(chest), 1);
        int[] at = { 24, 0, 0, 0, NONE, 0, 0, 1 };
        for (int what = 0; what < 8; what++) is(x, x.at(what), at[what]);
        is(x, x.count(3), 0);
        is(x, x.count(4), 0);
        for (int i = 0; i < 7; i++) is(x, x.times(i, 0) + x.times(i, 1), 0);
    }

    private static void tracks() {
        says("TRACKS 0 .. 7 have a WIRE to a PLACE of a CHEST (none at first), a HOLE, a LEVEL.");
        within(0, 7, PlayingBoundsTest::organ, (x, v) -> x.wire(v, 0, 0));
        within(0, 7, played(1, HOLES, 0xff), (x, v) -> x.open(v));
        within(0, 7, played(1, HOLES, 0xff), (x, v) -> x.level(v));
        Player x = rolls(1);
        x.instrument(PIPE);
        x.chest(7, 1);
        x.place(0, 0, 0);
        strip(x, HOLES, 1, 0xff);
        x.play(0);
        x.tick(1);
        is(x, x.count(3), 1);
        for (int track = 0; track < 8; track++) is(x, x.open(track), 0, 0);
    }

    private static void rollBegins() {
        says("When a ROLL begins: no HOLE is open, LEVELS are 1000, the STOPS of all 16 CHESTS are drawn, TEMPO is 24, BEAT, PHASE, TICKS GONE are 0, no EVENTS, nothing was OPENED or ENDED, no STRIP is at hand.");
        Player x = organ();
        x.play(0);
        anew(x);
        x.halt();
        strip(x, LEVELS, 0, 0x8000);
        strip(x, STOPS, 0, 'a', 'h', 'p');
        strip(x, TEMPO, 0, 3, 9 << 16 | 90);
        strip(x, HOLES, 5, 0x6b);
        x.play(0);
        x.tick(4);
        x.halt();
        x.play(0);
        anew(x);
        // Nothing goes on from before: TEMPO stays till the strip that tells it.
        x.halt();
        Player y = strip(organ(), HOLES, 3, 0, 0, 0);
        strip(y, TEMPO, 2, 200 << 16 | 9000);
        y.play(0);
        y.tick(5);
        y.halt();
        y.play(0);
        y.tick(3);
        is(y, y.at(0), 24);
    }

    private static void tickA() {
        says("A TICK: (a) as long as no STRIP is at hand, or its TICKS are all over: the next one (the first) begins");
        Player x = organ();
        strip(x, HOLES, 1);
        strip(x, HOLES, 2);
        strip(x, HOLES, 0);
        strip(x, HOLES, 0);
        strip(x, HOLES, 256);
        x.play(0);
        int[] places = { 0, 1, 1, 4, 4 };
        int[] over = { 1, 1, 2, 1, 2 };
        for (int i = 0; i < 5; i++) {
            is(x, x.tick(1), 1);
            is(x, x.at(4), places[i]);
            is(x, x.at(5), over[i]);
        }
        is(x, x.tick(254), 254);
        is(x, x.at(5), 256);
        is(x, x.at(7), 1);
        is(x, x.tick(1), 0);
        is(x, x.at(7), 0);
        // As many as can be, one behind another, in one tick.
        Player all = rolls(1);
        all.strip(0, HOLES, 0, 0, 0);
        for (int have = 1; have < 399;) have = all.repeat(0, 0, Math.min(8, Math.min(have, 399 - have)));
        all.strip(0, HOLES, 0, 0, 1);
        all.play(0);
        is(all, all.tick(1), 1, 0);
        is(all, all.at(4), 399);
        is(all, all.count(3), 400);
    }

    private static void tickOver() {
        says("if there is none, THE ROLL IS OVER: all that sounds is ENDED, the latest first, all HOLES are shut, nothing is PLAYED any more (this is no TICK).");
        Player empty = rolls(1);
        empty.play(0);
        is(empty, empty.tick(500), 0, 0);
        int[] at = { 24, 0, 0, 0, NONE, 0, 0, 0, 0 };
        for (int what = 0; what < 9; what++) is(empty, empty.at(what), at[what], 0);
        is(empty, empty.count(3), 0);
        // Strips of no ticks alone: none went, but all began.
        Player none = strips(398);
        none.play(0);
        is(none, none.tick(500), 0, 0);
        is(none, none.at(4), 198);
        is(none, none.count(3), 199);
        is(none, none.at(8), 0);
        is(none, none.at(7), 0);
        // What sounds.
        Player x = played(256, HOLES, 0x01, 0x03, 0x83).one();
        is(x, x.open(7), 0);
        sounds(x, PIPE, REED);
        is(x, x.tick(1), 0, 0);
        sounds(x);
        for (int track = 0; track < 8; track++) is(x, x.open(track), NONE, 0);
        event(x, 3, ENDED, 256, REED, 1);
        event(x, 4, ENDED, 256, PIPE, 0);
        is(x, x.count(3), 5);
        is(x, x.at(3), 256);
        is(x, x.at(8), 256);
        is(x, x.at(2), 256 % 24);
    }

    /** The organ; a strip that opens two holes, and a second one with this finding and so many ticks. */
    private static Player withFinding(int finding, int ticks) {
        Player x = strip(organ(), HOLES, 1, 0x03);
        strip(x, HOLES, ticks, 0x07, 0x04);
        strip(x, HOLES, 1, 0x01);
        int[][] damages = { {}, {}, {}, { 3, 0x80 }, {}, { 0, 1 }, {}, { 4, 1 }, { 4, 3 }, { 9, 8 } };
        if (finding == 1) x.lose(0, 1);
        else if (finding == 2) x.tear(0, 1, 8);
        else x.damage(0, 1, damages[finding][0], damages[finding][1]);
        x.play(0);
        return x;
    }

    private static void stripBegins() {
        says("A STRIP that begins is READ: EVENT 0 (of: its place; its FINDING, or 0).");
        for (int finding : new int[] { 1, 2, 3, 5, 7, 8, 9 }) {
            Player x = withFinding(finding, 2);
            x.tick(4);
            event(x, 0, BEGAN, 0, 0, 0);
            event(x, 3, BEGAN, 1, 1, finding);
            event(x, 6, BEGAN, 3, 2, 0);
            is(x, x.at(4), 2);
        }
    }

    private static void stripWithFinding() {
        says("With a FINDING all that sounds is ENDED, the latest first, all HOLES are shut, and its TICKS pass without more.");
        for (int finding : new int[] { 1, 2, 3, 5, 7, 8, 9 }) {
            for (int ticks : new int[] { 0, 1, 256 }) {
                Player x = withFinding(finding, ticks);
                x.tick(1);
                sounds(x, PIPE, REED);
                is(x, x.tick(ticks), ticks, 0);
                if (ticks > 0) {
                    sounds(x);
                    is(x, x.at(6), 0);
                    is(x, x.at(5), ticks);
                    for (int track = 0; track < 8; track++) is(x, x.open(track), NONE);
                }
                is(x, x.tick(1), 1, 0);
                event(x, 4, ENDED, 1, REED, 1);
                event(x, 5, ENDED, 1, PIPE, 0);
                event(x, 6, BEGAN, 1 + ticks, 2, 0);
                event(x, 7, OPENED, 1 + ticks, PIPE, 0);
                is(x, x.count(3), 8);
                is(x, x.at(3), 2 + ticks);
            }
        }
    }

    private static void stripOfNoTicks() {
        says("One of 0 TICKS that is WHOLE does all its ELEMENTS then, in order.");
        Player none = strip(strip(organ(), HOLES, 0), HOLES, 1, 0);
        none.play(0);
        none.tick(1);
        is(none, none.count(3), 2);
        Player x = organ();
        fill(x, HOLES, 0, 1, 3, 2, 0);
        strip(x, HOLES, 1);
        x.play(0);
        is(x, x.tick(1), 1);
        // 64 times: the pipe opens, the reed opens, the pipe ends, the reed ends.
        is(x, x.count(3), 2 + 256);
        for (int k = 0; k < 256; k += 85) {
            event(x, 1 + k, k % 4 < 2 ? OPENED : ENDED, 0, k % 4 == 0 || k % 4 == 2 ? PIPE : REED, k % 4 == 0 || k % 4 == 2 ? 0 : 1);
        }
        // The latest one counts, of all kinds.
        Player y = organ();
        strip(y, LEVELS, 0, 5, 6, 7);
        strip(y, STOPS, 0, 'a', 'A', 'b');
        strip(y, TEMPO, 0, 5, 6, 7);
        strip(y, HOLES, 1);
        y.play(0);
        y.tick(1);
        is(y, y.level(0), 7);
        is(y, y.stop(0), 1);
        is(y, y.stop(1), 0);
        is(y, y.at(0), 7);
        // TEMPO goes on by ticks alone.
        is(y, y.at(2), 1);
    }

    private static void tickB() {
        says("(b) The STRIP at hand, if it is WHOLE, does its ELEMENT by how many of its TICKS are over, if there is such a one.");
        Player x = organ();
        // Fewer elements than ticks; more; as many.
        strip(x, LEVELS, 3, 11);
        strip(x, LEVELS, 1, 22, 33);
        strip(x, LEVELS, 2, 44, 55);
        strip(x, LEVELS, 2);
        x.play(0);
        int[] due = { 11, 11, 11, 22, 44, 55, 55, 55 };
        for (int v : due) {
            is(x, x.tick(1), 1);
            is(x, x.level(0), v);
        }
        is(x, x.tick(1), 0);
        // The last of 256 in the last of 256 ticks.
        Player y = organ();
        fill(y, LEVELS, 256, 7);
        y.punch(0, 0, 255, 9);
        y.play(0);
        y.tick(255);
        is(y, y.level(0), 7);
        is(y, y.tick(1), 1);
        is(y, y.level(0), 9);
        is(y, y.tick(1), 0);
    }

    private static void tickC() {
        says("(c) TEMPO goes on; PHASE is one more; is it TEMPO or more: PHASE is 0, BEAT one more. (d) TICKS GONE is one more.");
        int[] tempi = { 1, 2, 24, 255, 256, 257, 65535 };
        for (int t : tempi) {
            Player x = played(0, TEMPO, t).one();
            is(x, x.tick(256), 256);
            is(x, x.at(1), 256 / t);
            is(x, x.at(2), 256 % t);
            is(x, x.at(3), 256);
        }
        // PHASE right below, at and above a TEMPO that has become less.
        for (int t = 9; t <= 12; t++) {
            Player x = strip(strip(organ(), HOLES, 10), TEMPO, 1, t);
            x.play(0);
            x.tick(10);
            is(x, x.at(2), 10);
            x.tick(1);
            is(x, x.at(2), t <= 11 ? 0 : 11);
            is(x, x.at(1), t <= 11 ? 1 : 0);
        }
        // What it is by then, not what it was: from 24 to 2 at the second time.
        Player y = played(1, TEMPO, 2 << 16 | 2).one();
        is(y, y.at(0), 13);
        is(y, y.at(2), 1);
        y.tick(1);
        is(y, y.at(0), 2);
        is(y, y.at(2), 0);
        is(y, y.at(1), 1);
    }

    private static void holes() {
        says("HOLES: by its bits 0 .. 7, TRACK by TRACK: 1: is the HOLE shut, it opens; 0: is it open, it is shut.");
        for (int track = 0; track < 8; track++) {
            Player x = played(1, HOLES, 1 << track, ~(1 << track)).one();
            for (int t = 0; t < 8; t++) is(x, x.open(t), t != track ? NONE : t == 7 ? 0 : 1);
            x.tick(1);
            for (int t = 0; t < 8; t++) is(x, x.open(t), t == track ? NONE : t == 7 ? 0 : 1);
        }
        // Bits beyond a byte are none of its; a hole that is open stays as it is.
        Player y = played(1, HOLES, 0xff00, 0x7f, -1, -1, 0).one();
        is(y, y.count(3), 1);
        y.tick(1);
        is(y, y.count(3), 8);
        for (int k = 0; k < 7; k++) event(y, 1 + k, OPENED, 1, k, k);
        y.tick(2);
        is(y, y.count(3), 8);
        is(y, y.open(7), 0);
        y.tick(1);
        for (int k = 0; k < 7; k++) event(y, 8 + k, ENDED, 4, k, k);
        is(y, y.count(3), 15);
    }

    private static Player wired(int chest, int i, int stop) {
        Player x = rolls(1);
        x.instrument(PIPE);
        for (int c = 0; c < 16; c++) x.chest(7, 2);
        for (int c = 0; c < 16; c++) x.place(c, 1, 0);
        x.wire(7, chest, i);
        if (stop != 0) strip(x, STOPS, 0, stop);
        strip(x, HOLES, 1, 0x80);
        x.play(0);
        x.tick(1);
        return x;
    }

    private static void holesThatOpen() {
        says("One that opens: has its TRACK no WIRE, or is the STOP of that CHEST not drawn: nothing more.");
        for (int i : new int[] { MIN, -1, 0, 1, 2, MAX }) {
            Player x = wired(-1, i, 0);
            is(x, x.count(3), 1);
            is(x, x.open(7), 0, 0);
        }
        for (int c : new int[] { 0, 15 }) {
            for (int i : new int[] { -1, 0, 1, 2 }) {
                Player x = wired(c, i, 'a' + c);
                is(x, x.count(3), 2);
                is(x, x.open(7), 0, 0);
                is(x, x.trace(14), 0);
            }
            Player other = wired(c, 1, 'a' + 15 - c);
            is(other, other.open(7), 1, 0);
        }
        says("TORN: there is no such PLACE; LOST: it is empty; else its INSTRUMENT is OPENED (SPOILT): EVENT 3 (of: the TRACK; its FINDING) if one of these is met.");
        for (int c : new int[] { 0, 15 }) {
            for (int i : new int[] { MIN, -1, 2, MAX }) {
                Player x = wired(c, i, 0);
                event(x, 1, FAILED, 0, 7, 2);
                is(x, x.count(3), 2);
                is(x, x.open(7), 0, 0);
            }
            Player x = wired(c, 0, 0);
            event(x, 1, FAILED, 0, 7, 1);
            is(x, x.count(3), 2);
            Player y = wired(c, 1, 0);
            event(y, 1, OPENED, 0, PIPE, 7);
            is(y, y.count(3), 2);
        }
        // A chest without places has not even the first.
        Player none = rolls(1);
        none.chest(7, 0);
        none.wire(0, 0, 0);
        strip(none, HOLES, 1, 1);
        none.play(0);
        none.tick(1);
        event(none, 1, FAILED, 0, 0, 2);
    }

    private static void holesThatShut() {
        says("One that is shut: what came by its opening is ENDED, the latest first.");
        // None came; one; as many as can be.
        Player x = played(2, HOLES, 0x80, 0).one();
        is(x, x.count(3), 1);
        is(x, x.open(7), NONE);
        Player y = played(3, HOLES, 0x02, 0x03, 0x01).one();
        sounds(y, PIPE);
        event(y, 3, ENDED, 2, REED, 1);
        Player z = full();
        is(z, z.count(4), 320);
        for (int track = 0; track < 8; track++) is(z, z.open(track), 40);
        z.tick(1);
        is(z, z.count(4), 160);
        for (int track = 0; track < 8; track++) is(z, z.open(track), track % 2 == 1 ? NONE : 40);
        event(z, 321, ENDED, 1, 39, 1);
        event(z, 360, ENDED, 1, 0, 1);
        event(z, 361, ENDED, 1, 39, 3);
        event(z, 480, ENDED, 1, 0, 7);
        is(z, z.sounding(159, 0), 39);
        is(z, z.sounding(159, 1), 6);
    }

    /** Each track wired to a coupler over 39 more, one in another, all open; the next tick shuts the odd ones. */
    private static Player full() {
        Player x = rolls(1);
        for (int i = 0; i < 40; i++) x.instrument(COUPLER);
        for (int i = 0; i < 39; i++) x.couple(i, i + 1);
        x.chest(COUPLER, 1);
        x.place(0, 0, 0);
        for (int track = 0; track < 8; track++) x.wire(track, 0, 0);
        strip(x, HOLES, 9, 0xff, 0x55);
        x.play(0);
        x.tick(1);
        return x;
    }

    private static void levels() {
        says("LEVELS: the LEVEL of TRACK (e >> 12) & 7, or, if e is below 0, of all of them, is e & 4095.");
        int[][] one = { { 0, 0, 0 }, { 4095, 0, 4095 }, { 4096, 1, 0 }, { 0x6fff, 6, 4095 }, { 0x7000, 7, 0 },
            { 0x7fff, 7, 4095 }, { 0x10001, 0, 1 } };
        for (int[] e : one) {
            Player x = played(1, LEVELS, e[0]).one();
            for (int track = 0; track < 8; track++) is(x, x.level(track), track == e[1] ? e[2] : 1000);
        }
        int[][] all = { { 0x8000, 0 }, { -32768, 0 }, { -1, 4095 }, { 0xffff, 4095 }, { 0x8fff, 4095 }, { 0xf001, 1 } };
        for (int[] e : all) {
            Player x = played(1, LEVELS, e[0]).one();
            for (int track = 0; track < 8; track++) is(x, x.level(track), e[1]);
            // Nothing beside them.
            for (int track = 0; track < 8; track++) is(x, x.open(track), NONE, 0);
            for (int chest = 0; chest < 16; chest++) is(x, x.stop(chest), 1);
        }
    }

    private static void stops() {
        says("STOPS: A .. P: the STOP of CHEST 0 .. 15 is drawn, a .. p: it is not (others: nothing).");
        for (int c = 0; c < 16; c++) {
            Player x = played(1, STOPS, 'a' + c, 'A' + c).one();
            for (int i = 0; i < 16; i++) is(x, x.stop(i), i == c ? 0 : 1);
            x.tick(1);
            for (int i = 0; i < 16; i++) is(x, x.stop(i), 1);
        }
        int[] others = { 0, 1, '@', 'Q', '`', 'q', 'a' + 256, 'p' + 256, 0xff61, 0x8061, 65535, -1 };
        for (int c : others) {
            Player x = played(1, STOPS, c).one();
            for (int i = 0; i < 16; i++) is(x, x.stop(i), 1);
        }
        int[] drawing = { '@', 'Q', 'A' + 256, 0xff41 };
        for (int c : drawing) {
            Player x = played(3, STOPS, 'a', 'p', c).one();
            is(x, x.stop(0) + x.stop(15), 0);
        }
        // The lowest 16 bits alone are its element.
        Player low = played(1, STOPS, 0x10000 | 'p').one();
        is(low, low.stop(15), 0);
    }

    private static void tempi(int[] elements, int... due) {
        Player x = played(0, TEMPO, elements).one();
        for (int t : due) {
            x.tick(1);
            is(x, x.at(0), t);
        }
    }

    private static void tempo() {
        says("TEMPO: t is v & 65535, r v >>> 16; t 0: nothing (what goes on goes on).");
        tempi(new int[] { 0, 1 << 16, 0xffff0000, 24 << 16 }, 24, 24, 24, 24);
        tempi(new int[] { 3 << 16 | 27, 0, 0xffff0000 }, 25, 26, 27, 27);
        says("r 0: TEMPO is t at once (nothing goes on).");
        tempi(new int[] { 1 }, 1, 1);
        tempi(new int[] { 65535 }, 65535, 65535);
        tempi(new int[] { 3 << 16 | 27, 9 }, 25, 9, 9, 9);
        says("Else it goes from what it is to t: going on for the k-th time (k 1 .. r) it is from + floor(((t - from) * k * 2 + r) / (2 * r)), exactly.");
        tempi(new int[] { 1 << 16 | 1 }, 1, 1);
        tempi(new int[] { 1 << 16 | 65535 }, 65535, 65535);
        tempi(new int[] { 0x7fff0000 | 24 }, 24, 24);
        tempi(new int[] { 0xffff0000 | 24 }, 24, 24);
        // Halves: up, whether it rises or falls.
        tempi(new int[] { 2 << 16 | 25 }, 25, 25);
        tempi(new int[] { 2 << 16 | 23 }, 24, 23, 23);
        tempi(new int[] { 4 << 16 | 26 }, 25, 25, 26, 26);
        tempi(new int[] { 4 << 16 | 22 }, 24, 23, 23, 22);
        // A third and two thirds.
        tempi(new int[] { 3 << 16 | 25 }, 24, 25, 25, 25);
        tempi(new int[] { 3 << 16 | 23 }, 24, 23, 23, 23);
        // Anew in the midst, from what it is by then.
        tempi(new int[] { 4 << 16 | 28, 1 << 16 | 24 }, 25, 24, 24, 24);
    }

    private static void tempoExactly() {
        says("floor(((t - from) * k * 2 + r) / (2 * r)), exactly.");
        int[][] ways = { { 65535, 1 }, { 1, 65535 }, { 65535, 65534 }, { 2, 65535 } };
        for (int[] way : ways) {
            Player x = organ();
            strip(x, TEMPO, 0, way[0], 0xffff0000 | way[1]);
            x.strip(0, HOLES, 0, 0, 256);
            for (int have = 1; have < 64; have *= 2) x.repeat(0, 1, Math.min(8, have));
            for (int i = 0; i < 8; i++) x.repeat(0, 1, 8);
            x.play(0);
            for (int k = 0; k < 12000;) {
                k += x.tick(k < 3 ? 1 : 499);
                long due = way[0] + Math.floorDiv((long) (way[1] - way[0]) * k * 2 + 65535, 2L * 65535);
                is(x, x.at(0), due);
            }
        }
    }

    private static void eventsKept() {
        says("EVENTS besides: 1 OPENED (of: the INSTRUMENT; its TRACK), 2 ENDED (likewise). The first 1500 are kept, all are counted.");
        Player x = organ();
        fill(x, HOLES, 250, 1, 0);
        for (int have = 1; have < 8; have *= 2) x.repeat(0, 0, have);
        x.play(0);
        // Of each tick one, and one of each strip: 1500 behind the 1494th.
        go(x, 1493);
        is(x, x.count(3), 1499);
        is(x, x.event(1498, 1), 1492, 0);
        is(x, x.event(1499, 1), NONE, 0);
        x.tick(1);
        is(x, x.count(3), 1500);
        event(x, 1499, ENDED, 1493, PIPE, 0);
        is(x, x.event(1500, 0), NONE, 0);
        x.tick(1);
        is(x, x.count(3), 1501);
        event(x, 1499, ENDED, 1493, PIPE, 0);
        is(x, x.event(1500, 0), NONE, 0);
        go(x, 400);
        is(x, x.count(3), 1903);
        is(x, x.event(1500, 0), NONE, 0);
        event(x, 0, BEGAN, 0, 0, 0);
        event(x, 1499, ENDED, 1493, PIPE, 0);
        // Back over the last that is kept, and on again.
        is(x, x.back(402), 1493);
        is(x, x.count(3), 1499);
        is(x, x.event(1499, 0), NONE, 0);
        x.tick(2);
        event(x, 1499, ENDED, 1493, PIPE, 0);
        is(x, x.count(3), 1501);
        // And back to where more are counted than kept.
        x.tick(9);
        is(x, x.back(8), 1496);
        is(x, x.count(3), 1502);
        event(x, 1499, ENDED, 1493, PIPE, 0);
    }

    private static void allTicks() {
        says("20000 TICKS are there for all PLAYING.");
        Player x = longRoll(80);
        x.play(0);
        go(x, 19999);
        is(x, x.at(8), 19999);
        is(x, x.tick(2), 1, 0);
        is(x, x.at(8), 20000);
        int events = x.count(3);
        for (int n : new int[] { 0, 1, 500 }) is(x, x.tick(n), 0, 0);
        is(x, x.at(8), 20000);
        is(x, x.at(3), 20000);
        is(x, x.at(7), 1);
        is(x, x.count(3), events);
        // Back gives none back; nor does another roll.
        is(x, x.back(500), 19500, 0);
        is(x, x.tick(1), 0, 0);
        is(x, x.at(3), 19500);
        is(x, x.at(8), 20000);
        x.halt();
        x.play(0);
        is(x, x.tick(1), 0, 0);
        is(x, x.at(4), NONE);
        is(x, x.count(3), 0);
        // The last of them is the roll's last: that it is over is not even found.
        Player y = strip(organ(), HOLES, 250, 1);
        strip(y, HOLES, 250, 1);
        for (int i = 0; i < 40; i++) {
            y.play(0);
            is(y, y.tick(500), 500);
            if (i < 39) y.halt();
        }
        is(y, y.tick(500), 0, 0);
        is(y, y.at(7), 1);
        sounds(y, PIPE);
        is(y, y.halt(), 1, 0);
        // Nor that a roll has no strips.
        y.roll();
        y.play(1);
        is(y, y.tick(1), 0, 0);
        is(y, y.at(7), 1);
    }

    // ---- promises 27 to 38

    private static final Make FOUR = Bounds::four;
    // All seven sound, the eighth hole is open; then the even ones.
    private static final Make SOUNDING = played(2, HOLES, 0x00, 0xff, 0x55);
    private static final Make OVER = () -> {
        Player x = strip(organ(), HOLES, 2, 0x7f);
        x.play(0);
        x.tick(3);
        return x;
    };

    private static void promise27() {
        says("A ROLL begins: how many STRIPS it has. BAD, BUSY.");
        let(0, () -> rolls(1), x -> x.play(0));
        let(4, FOUR, x -> x.play(0));
        let(200, () -> strips(400), x -> x.play(1));
        within(0, 19, () -> rolls(20), (x, v) -> x.play(v));
        refused(BAD, Player::new, x -> x.play(0));
        refused(BUSY, playing(FOUR), x -> x.play(0));
        refused(BAD, playing(FOUR), x -> x.play(1));
        refused(BAD, playing(FOUR), x -> x.play(-1));
        refused(BUSY, SOUNDING, x -> x.play(0));
        // Nothing is played any more: it can begin again.
        let(1, OVER, x -> x.play(0));
        let(4, and(playing(FOUR), x -> x.halt()), x -> x.play(0));
    }

    private static void promise28() {
        says("So many TICKS, or till THE ROLL IS OVER, or none is there any more (then nothing is done): how many went.");
        for (int n : new int[] { 0, 1, 7, 8, 9, 500 }) {
            Player x = let(Math.min(n, 8), playing(FOUR), y -> y.tick(n));
            is(x, x.at(3), Math.min(n, 8));
            is(x, x.at(7), n <= 8 ? 1 : 0);
        }
        let(500, playing(() -> longRoll(2)), x -> x.tick(500));
        says("BAD: n is not 0 .. 500; NONE: nothing is PLAYED.");
        within(0, 500, playing(FOUR), (x, v) -> x.tick(v));
        for (Make make : new Make[] { Player::new, FOUR, OVER, and(playing(FOUR), x -> x.halt()) }) {
            for (int n : new int[] { 0, 1, 500 }) refused(NONE, make, x -> x.tick(n));
            for (int n : new int[] { -1, 501, MIN, MAX }) refused(BAD, make, x -> x.tick(n));
        }
        // None at all: nothing has begun.
        Player x = let(0, playing(FOUR), y -> y.tick(0));
        is(x, x.at(4), NONE);
        is(x, x.count(3), 0);
    }

    private static void promise29() {
        says("All that sounds is ENDED, the latest first, all HOLES are shut, nothing is PLAYED any more: how many were ENDED. NONE: nothing is PLAYED.");
        Player x = let(0, playing(FOUR), y -> y.halt());
        is(x, x.count(3), 0);
        is(x, x.at(7), 0);
        Player y = let(7, SOUNDING, z -> z.halt());
        for (int k = 0; k < 7; k++) event(y, 8 + k, ENDED, 2, 6 - k, 6 - k);
        is(y, y.count(3), 15);
        sounds(y);
        for (int track = 0; track < 8; track++) is(y, y.open(track), NONE, 0);
        let(320, PlayingBoundsTest::full, z -> z.halt());
        refused(NONE, Player::new, z -> z.halt());
        refused(NONE, FOUR, z -> z.halt());
        refused(NONE, OVER, z -> z.halt());
        refused(NONE, and(SOUNDING, z -> z.halt()), z -> z.halt());
    }

    private static void promise30() {
        says("BAD: n is not 0 .. 500; NONE: nothing is PLAYED, or that is not kept.");
        within(0, 500, and(playing(() -> longRoll(2)), x -> x.tick(500)), (x, v) -> x.back(v));
        for (Make make : new Make[] { Player::new, FOUR, OVER, and(SOUNDING, x -> x.halt()) }) {
            for (int n : new int[] { 0, 1, 500 }) refused(NONE, make, x -> x.back(n));
            for (int n : new int[] { -1, 501, MIN, MAX }) refused(BAD, make, x -> x.back(n));
        }
        let(0, playing(FOUR), x -> x.back(0));
        for (int n : new int[] { 1, 2, 500 }) refused(NONE, playing(FOUR), x -> x.back(n));
        for (int n : new int[] { -1, 501, MIN, MAX }) refused(BAD, playing(FOUR), x -> x.back(n));
        Make three = and(playing(FOUR), x -> x.tick(3));
        for (int n = 0; n <= 3; n++) {
            int ago = n;
            let(3 - n, three, x -> x.back(ago));
        }
        for (int n : new int[] { 4, 5, 500 }) refused(NONE, three, x -> x.back(n));
        // What one roll kept is not there for the next one.
        refused(NONE, and(and(three, x -> x.halt()), x -> x.play(0)), x -> x.back(1));
    }

    private static void promise30Kept() {
        says("It can go to what is kept: the latest 501 of how it was as the ROLL began and behind each TICK; what it goes back over is kept no more.");
        for (int gone : new int[] { 499, 500, 501, 502, 1001, 1002 }) {
            Make make = () -> {
                Player x = longRoll(5);
                x.play(0);
                go(x, gone);
                return x;
            };
            if (gone < 500) refused(NONE, make, x -> x.back(500));
            else let(gone - 500, make, x -> x.back(500));
            // Once back over all that was kept there is nothing more, till it has gone on.
            Player x = and(make, y -> y.back(Math.min(500, gone))).one();
            int at = Math.max(0, gone - 500);
            is(x, x.back(1), NONE, 0);
            is(x, x.back(0), at, 0);
            is(x, x.tick(1), 1);
            is(x, x.back(2), NONE, 0);
            is(x, x.back(1), at, 0);
            // In two steps as far as in one.
            Player y = and(make, z -> z.back(200)).one();
            is(y, y.back(Math.min(300, gone - 200) + 1), NONE, 0);
            is(y, y.back(Math.min(300, gone - 200)), at, 0);
            // 301 kept, and 199 more: 500 are not beyond the first of them yet, 501 are.
            Player z = and(make, w -> w.back(200)).one();
            if (gone > 500) {
                z.tick(200);
                is(z, z.back(500), at, 0);
                Player v = and(and(make, w -> w.back(200)), w -> w.tick(201)).one();
                is(v, v.back(500), at + 1, 0);
            }
        }
    }

    private static String stage(Player x) {
        StringBuilder s = new StringBuilder();
        for (int what = 0; what < 8; what++) s.append(x.at(what)).append(' ').append(x.level(what)).append(' ').append(x.open(what)).append(' ');
        for (int c : new int[] { 0, 1, 15 }) s.append(x.stop(c)).append(' ');
        for (int i = 0; i < 7; i++) s.append(x.times(i, 0)).append(' ').append(x.times(i, 1)).append(' ');
        int n = x.count(4);
        for (int k = 0; k < n; k++) s.append(x.sounding(k, 0)).append(x.sounding(k, 1)).append(x.sounding(k, 2)).append(' ');
        n = x.count(3);
        s.append(n).append(' ').append(x.event(n, 0)).append(x.event(n - 1, 0)).append(x.event(n - 1, 1)).append(x.event(n - 1, 2));
        return s.toString();
    }

    private static void promise30AsItWas() {
        says("PLAYING is as it was n TICKS ago (what sounds, SPOILING, OPENINGS, EVENTS and all that section 4 names; but neither the TICKS that are there nor what trace() tells): TICKS GONE then.");
        Make make = () -> {
            Player x = organ();
            x.couple(COUPLER, PIPE);
            x.spoil(PIPE, 3);
            strip(x, HOLES, 2, 0x43, 0x40);
            strip(x, LEVELS, 1, 0x8005);
            strip(x, STOPS, 1, 'p');
            strip(x, TEMPO, 1, 4 << 16 | 4);
            x.lose(0, x.strip(0, HOLES, 0, 1, 1));
            strip(x, HOLES, 3, 0x41, 0x00, 0x01);
            x.play(0);
            return x;
        };
        for (int to = 0; to < 9; to++) {
            Player plain = make.one();
            plain.tick(to);
            String then = stage(plain);
            plain.halt();
            int spoils = plain.spoil(PIPE, 0);
            Player x = make.one();
            x.tick(9);
            int[] done = traces(x);
            is(x, x.back(9 - to), to, 0);
            Due.isTrue(stage(x).equals(then), "not as it was " + then + " but " + stage(x));
            is(x, x.at(8), 9);
            added(x, done);
            x.halt();
            is(x, x.spoil(PIPE, 0), spoils);
        }
    }

    private static void promise31() {
        says("How many sound by the opening of a TRACK's HOLE; NONE: it is shut. BAD.");
        within(0, 7, SOUNDING, (x, v) -> x.open(v));
        let(1, SOUNDING, x -> x.open(6));
        let(0, SOUNDING, x -> x.open(7));
        let(40, PlayingBoundsTest::full, x -> x.open(7));
        for (int track = 0; track < 8; track++) {
            int t = track;
            refused(NONE, Player::new, x -> x.open(t));
            refused(NONE, playing(FOUR), x -> x.open(t));
            refused(NONE, OVER, x -> x.open(t));
        }
        refused(NONE, and(SOUNDING, x -> x.tick(1)), x -> x.open(7));
        for (int track : new int[] { -1, 8, MIN, MAX }) refused(BAD, Player::new, x -> x.open(track));
    }

    private static void promise32() {
        says("Of THOSE THAT SOUND, as they were OPENED, the k-th (from 0 on): what = 0 its INSTRUMENT, 1 its TRACK, 2 its age: TICKS GONE less those when it was OPENED. NONE. BAD: what, k below 0.");
        within(0, 2, SOUNDING, (x, v) -> x.sounding(6, v));
        let(6, SOUNDING, x -> x.sounding(6, 0));
        let(6, SOUNDING, x -> x.sounding(6, 1));
        let(1, SOUNDING, x -> x.sounding(6, 2));
        let(255, and(SOUNDING, x -> x.tick(254)), x -> x.sounding(3, 2));
        for (int what = 0; what < 3; what++) {
            int w = what;
            refused(NONE, SOUNDING, x -> x.sounding(7, w));
            refused(NONE, SOUNDING, x -> x.sounding(MAX, w));
            refused(NONE, Player::new, x -> x.sounding(0, w));
            refused(NONE, OVER, x -> x.sounding(0, w));
            refused(BAD, SOUNDING, x -> x.sounding(-1, w));
            refused(BAD, Player::new, x -> x.sounding(MIN, w));
        }
        for (int what : new int[] { -1, 3, MIN, MAX }) {
            refused(BAD, SOUNDING, x -> x.sounding(0, what));
            refused(BAD, SOUNDING, x -> x.sounding(7, what));
        }
        Player x = full();
        is(x, x.sounding(319, 0), 39, 0);
        is(x, x.sounding(319, 1), 7, 0);
        is(x, x.sounding(320, 0), NONE, 0);
    }

    private static void promise33() {
        says("Whether the k-th of them is MUTE (a DRUM is not, nor asked): 0; else its LOUD, by the LEVEL of its TRACK and its age. NONE. BAD: k below 0.");
        let(1019, SOUNDING, x -> x.loud(0));
        let(0, SOUNDING, x -> x.loud(6));
        let(0, SOUNDING, x -> x.loud(DRUM));
        refused(NONE, SOUNDING, x -> x.loud(7));
        refused(NONE, SOUNDING, x -> x.loud(MAX));
        refused(BAD, SOUNDING, x -> x.loud(-1));
        refused(BAD, SOUNDING, x -> x.loud(MIN));
        refused(NONE, Player::new, x -> x.loud(0));
        refused(BAD, Player::new, x -> x.loud(-1));
        refused(NONE, OVER, x -> x.loud(0));
        Player drum = SOUNDING.one();
        int[] before = traces(drum);
        drum.loud(DRUM);
        added(drum, before, 2);
        // The level of its track as it is now, not as it was opened.
        Player x = strip(organ(), HOLES, 1, 0x7f);
        strip(x, LEVELS, 2, 0x8000, 0x1fff);
        x.play(0);
        x.tick(2);
        is(x, x.loud(0), 19);
        is(x, x.loud(1), 26);
        is(x, x.loud(PLUCKED), 0);
        is(x, x.loud(BELL), 1);
        x.tick(1);
        is(x, x.loud(0), 19);
        is(x, x.loud(1), 4095 + 26);
    }

    private static void promise34() {
        says("The LEVEL of a TRACK (0 before a ROLL began). BAD.");
        for (Make make : new Make[] { Player::new, FOUR, playing(FOUR), OVER }) within(0, 7, make, (x, v) -> x.level(v));
        let(0, FOUR, x -> x.level(7));
        let(1000, playing(FOUR), x -> x.level(7));
        let(1000, OVER, x -> x.level(0));
        let(77, and(played(1, LEVELS, 0x804d), x -> x.halt()), x -> x.level(7));
    }

    private static void promise35() {
        says("Whether the STOP of CHEST 0 .. 15 is drawn: 1, 0 (0 before a ROLL began). BAD.");
        for (Make make : new Make[] { Player::new, FOUR, playing(FOUR), OVER }) within(0, 15, make, (x, v) -> x.stop(v));
        let(0, FOUR, x -> x.stop(15));
        let(1, playing(FOUR), x -> x.stop(15));
        let(0, and(played(1, STOPS, 'p'), x -> x.halt()), x -> x.stop(15));
        let(1, and(played(1, STOPS, 'p'), x -> x.halt()), x -> x.stop(14));
    }

    private static void promise36() {
        says("What = 0 TEMPO, 1 BEAT, 2 PHASE, 3 TICKS GONE, 4 the place of the STRIP at hand (NONE), 5 how many of its TICKS are over, 6 whether it is WHOLE (1, 0), 7 whether a ROLL is PLAYED (1, 0)");
        says("all 0 (4: NONE) before one began; when it is over as it was then. 8 TICKS that went in all. BAD.");
        for (Make make : new Make[] { Player::new, FOUR, playing(FOUR), SOUNDING, OVER }) {
            for (int what : new int[] { -1, 9, MIN, MAX }) refused(BAD, make, x -> x.at(what));
        }
        refused(NONE, FOUR, x -> x.at(4));
        refused(NONE, playing(FOUR), x -> x.at(4));
        refused(NONE, and(playing(FOUR), x -> x.halt()), x -> x.at(4));
        Make over = () -> {
            Player x = strip(organ(), TEMPO, 2, 2);
            x.lose(0, x.strip(0, HOLES, 0, 0, 3));
            x.play(0);
            x.tick(9);
            return x;
        };
        int[] then = { 2, 2, 1, 5, 1, 3, 0, 0, 5 };
        int[] before = { 0, 0, 0, 0, NONE, 0, 0, 0, 0 };
        int[] begun = { 24, 0, 0, 0, NONE, 0, 0, 1, 5 };
        let(1, SOUNDING, x -> x.at(6));
        let(1, SOUNDING, x -> x.at(7));
        let(0, SOUNDING, x -> x.at(4));
        let(2, SOUNDING, x -> x.at(5));
        Player x = over.one();
        for (int what = 0; what < 9; what++) {
            int w = what;
            is(x, x.at(what), then[what], 0);
            if (before[w] >= 0) let(before[w], FOUR, y -> y.at(w));
        }
        x.play(0);
        for (int what = 0; what < 9; what++) is(x, x.at(what), begun[what], 0);
        // A strip that is lost or sealed later is told of as it was.
        Player y = and(over, z -> z.seal(0, 0)).one();
        y.lose(0, 0);
        y.cut(0, 0);
        for (int what = 0; what < 9; what++) is(y, y.at(what), then[what], 0);
    }

    private static void promise37() {
        says("How often an INSTRUMENT was OPENED (what = 0), ENDED (1) since the latest ROLL began. BAD.");
        for (Make make : new Make[] { SOUNDING, OVER }) {
            within(0, 1, make, (x, v) -> x.times(6, v));
            within(0, 6, make, (x, v) -> x.times(v, 0));
            within(0, 6, make, (x, v) -> x.times(v, 1));
        }
        refused(BAD, Player::new, x -> x.times(0, 0));
        refused(BAD, SOUNDING, x -> x.times(7, 2));
        let(1, SOUNDING, x -> x.times(6, 0));
        let(0, SOUNDING, x -> x.times(6, 1));
        let(1, OVER, x -> x.times(6, 1));
        let(0, and(OVER, x -> x.play(0)), x -> x.times(6, 0));
        let(0, and(OVER, x -> x.play(0)), x -> x.times(6, 1));
    }

    private static void promise38() {
        says("EVENT k (from 0 on): what = 0 its sort, 1 TICKS GONE then, 2 of what, 3 the rest. NONE. BAD: what, k below 0.");
        within(0, 3, SOUNDING, (x, v) -> x.event(0, v));
        within(0, 3, SOUNDING, (x, v) -> x.event(7, v));
        for (int what = 0; what < 4; what++) {
            int w = what;
            refused(NONE, SOUNDING, x -> x.event(8, w));
            refused(NONE, SOUNDING, x -> x.event(MAX, w));
            refused(NONE, Player::new, x -> x.event(0, w));
            refused(NONE, playing(FOUR), x -> x.event(0, w));
            refused(BAD, SOUNDING, x -> x.event(-1, w));
            refused(BAD, Player::new, x -> x.event(MIN, w));
        }
        for (int what : new int[] { -1, 4, MIN, MAX }) {
            refused(BAD, SOUNDING, x -> x.event(0, what));
            refused(BAD, SOUNDING, x -> x.event(8, what));
            refused(BAD, Player::new, x -> x.event(0, what));
        }
        Player x = SOUNDING.one();
        event(x, 0, BEGAN, 0, 0, 0);
        event(x, 7, OPENED, 1, COUPLER, 6);
        Player y = OVER.one();
        event(y, 8, ENDED, 2, COUPLER, 6);
        event(y, 14, ENDED, 2, PIPE, 0);
    }
}
