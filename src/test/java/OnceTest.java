import java.util.ArrayList;
import java.util.List;
import java.util.Random;

/**
 * The document's first line: each opening ended just once whatever fails. The events of runs by fixed seeds are
 * gone through one by one: what they say was opened and ended must be what sounds, and what times() tells.
 */
final class OnceTest {
    private static final int BEGAN = 0, OPENED = 1, ENDED = 2, FAILED = 3;
    private static final int RUNS = 600, INSTRUMENTS = 9, COUPLERS = 4, KEPT = 1500;
    // So many events are asked for of one object, so that it has no more than 512 calls.
    private static final int AT_ONCE = 70;

    private static int opened, failed, failedCouplers, findings, backs, overs, halts;

    private final int seed;
    // Of each its INSTRUMENT and its TRACK.
    private final List<int[]> sounds = new ArrayList<>();
    private final int[][] times = new int[2][INSTRUMENTS];
    private int place = -1, gone, sortBefore = -1;
    private boolean silent;

    private OnceTest(int seed) {
        this.seed = seed;
    }

    public static void main(String[] args) {
        for (int seed = 0; seed < RUNS; seed++) new OnceTest(seed).goThrough();
        Due.isTrue(opened > 10 * RUNS && failed > RUNS && failedCouplers > RUNS / 2, "too few openings");
        Due.isTrue(findings > RUNS / 2 && backs > RUNS && overs > RUNS / 4 && halts > RUNS / 8, "too little happens");
        Due.end("OnceTest");
    }

    private void goThrough() {
        Player first = made();
        int n = first.count(3);
        // Behind these events are no longer told.
        if (n > KEPT) return;
        boolean playing = first.at(7) == 1;
        for (int from = 0; from < n; from += AT_ONCE) {
            Player x = made();
            for (int k = from; k < n && k < from + AT_ONCE; k++) {
                event(x.event(k, 0), x.event(k, 1), x.event(k, 2), x.event(k, 3));
            }
        }
        holds(playing || sounds.isEmpty(), "it is over, and it sounds");
        holds(!silent || sounds.isEmpty(), "it sounds on behind a finding");
        compare(made());
    }

    private void event(int sort, int when, int of, int rest) {
        holds(when >= gone, "an event comes too late");
        gone = when;
        if (sort == BEGAN) {
            holds(of == place + 1, "strip " + of + " begins behind strip " + place);
            holds(!silent || sounds.isEmpty(), "it sounds on behind a finding");
            place = of;
            silent = rest != 0;
            if (silent) findings++;
        } else if (sort == OPENED) {
            holds(!silent, "opened in a strip that is not whole");
            sounds.add(new int[] { of, rest });
            times[0][of]++;
            opened++;
        } else if (sort == ENDED) {
            int latest = latestBy(rest);
            holds(latest >= 0 && sounds.get(latest)[0] == of, "ended is not the latest of its track");
            if (latest >= 0) sounds.remove(latest);
            times[1][of]++;
        } else {
            holds(sort == FAILED && !silent, "event " + sort);
            holds(rest == 1 || rest == 2 || rest == 10, "an opening meets " + rest);
            holds(latestBy(of) < 0, "what could not be opened sounds");
            failed++;
            if (rest == 10 && sortBefore == ENDED) failedCouplers++;
        }
        sortBefore = sort;
    }

    private int latestBy(int track) {
        for (int i = sounds.size() - 1; i >= 0; i--) {
            if (sounds.get(i)[1] == track) return i;
        }
        return -1;
    }

    private void compare(Player x) {
        holds(x.count(4) == sounds.size(), "another number sounds");
        int[] by = new int[8];
        for (int k = 0; k < sounds.size(); k++) {
            by[sounds.get(k)[1]]++;
            if (k >= AT_ONCE) continue;
            holds(x.sounding(k, 0) == sounds.get(k)[0] && x.sounding(k, 1) == sounds.get(k)[1], "another one sounds");
        }
        for (int track = 0; track < 8; track++) {
            int open = x.open(track);
            holds(open == by[track] || (open == RollPlayer.NONE && by[track] == 0), "track " + track);
        }
        for (int i = 0; i < INSTRUMENTS; i++) {
            holds(x.times(i, 0) == times[0][i] && x.times(i, 1) == times[1][i], "times of " + i);
        }
    }

    private void holds(boolean it, String what) {
        Due.isTrue(it, "run " + seed + ": " + what);
    }

    /** Each time the same. */
    private Player made() {
        Player x = new Player();
        Random r = new Random(seed);
        makeOrgan(x, r);
        x.roll();
        int strips = 2 + r.nextInt(5);
        for (int s = 0; s < strips; s++) makeStrip(x, r, s);
        x.play(0);
        for (int i = 0; i < 5; i++) {
            x.tick(r.nextInt(6));
            if (r.nextInt(3) == 0 && x.back(1 + r.nextInt(3)) >= 0) backs++;
        }
        if (r.nextInt(4) == 0) x.tick(500);
        if (x.at(7) == 0) {
            overs++;
        } else if (r.nextInt(4) == 0) {
            int n = x.count(4);
            holds(x.halt() == n && x.count(4) == 0, "halted, and it sounds");
            halts++;
        }
        return x;
    }

    private static void makeOrgan(Player x, Random r) {
        for (int i = 0; i < INSTRUMENTS; i++) x.instrument(i < COUPLERS ? 6 : r.nextInt(6));
        for (int i = 0; i < 8; i++) x.couple(r.nextInt(COUPLERS), r.nextInt(INSTRUMENTS));
        for (int i = 0; i < 5; i++) x.spoil(r.nextInt(INSTRUMENTS), r.nextInt(5));
        x.chest(7, 4);
        x.chest(7, 4);
        for (int i = 0; i < 3; i++) {
            x.place(0, i, r.nextInt(INSTRUMENTS));
            x.place(1, i, r.nextInt(COUPLERS));
        }
        for (int track = 0; track < 8; track++) x.wire(track, r.nextInt(4) == 0 ? -1 : r.nextInt(2), r.nextInt(5));
    }

    private static void makeStrip(Player x, Random r, int s) {
        int kind = r.nextInt(6) == 0 ? 2 : 0;
        int n = 1 + r.nextInt(6);
        x.strip(0, kind, s, n, r.nextInt(4) == 0 ? 0 : r.nextInt(7));
        for (int k = 0; k < n; k++) x.punch(0, s, k, kind == 2 ? "aAbB".charAt(r.nextInt(4)) : r.nextInt(256));
        int harm = r.nextInt(12);
        if (harm == 0) x.lose(0, s);
        if (harm == 1) x.tear(0, s, r.nextInt(12));
        if (harm == 2) x.damage(0, s, r.nextInt(9 + n), 1 << r.nextInt(8));
    }
}
