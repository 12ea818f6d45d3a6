import java.util.ArrayList;
import java.util.List;

/** Section 1 and promises 49 to 53: each sentence that names a boundary case. */
final class ToldBoundsTest extends Bounds {
    private static final Make FOUR = Bounds::four;

    public static void main(String[] args) {
        calls512();
        codes();
        findings();
        longs();
        nothingHasChanged();
        ends();
        promise49();
        promise50();
        promise51();
        promise52();
        promise53();
        Due.end("ToldBoundsTest");
    }

    private static void calls512() {
        says("An object is used for at most 512 calls after it has been made; what later calls answer is free.");
        RollPlayer x = new RollPlayer();
        for (int i = 0; i < 20; i++) Due.is(x.roll(), i);
        for (int i = 20; i < 420; i++) Due.is(x.strip(i % 20, i % 4, i, 20, 1), (i - 20) / 20);
        for (int i = 420; i < 511; i++) Due.is(x.strip(0, 0, 0, 0, 0), Due.FULL);
        Due.is(x.count(6), 8000);
        // Free, but no call may ever fail to end or throw.
        for (int i = 0; i < 2000; i++) {
            x.join(i % 20, (i + 1) % 20);
            x.instrument(i % 7);
            x.chest(7, 1);
            x.couple(i % 60, (i * 7) % 60);
            x.play(i % 20);
            x.tick(500);
            x.back(i % 501);
            x.transpose(i % 20, 0, 1);
        }
    }

    private static void codes() {
        says("BAD -1: a number is not as told, or there is no such thing; BUSY -3: a ROLL is PLAYED (of acts that say so); FULL -2; then -10 less a FINDING, the first that is met");
        refused(-1, FOUR, x -> x.read(0, 4));
        refused(-1, FOUR, x -> x.tick(501));
        refused(-3, playing(FOUR), x -> x.roll());
        refused(-2, () -> rolls(20), x -> x.roll());
        says("NONE -4: there is none.");
        refused(-4, FOUR, x -> x.finding(0, 0));
        refused(-4, FOUR, x -> x.halt());
    }

    private static void findings() {
        says("1 LOST: nothing is there; 2 TORN: there is no such place; 3 SIZE: less than nothing; 4 SPAN: it goes beyond; 5 KIND: something else than what is wanted; 6 STORE: a CHEST takes no such thing; 7 LONG, 8 SHORT, 9 SUM as told; 10 SPOILT.");
        refused(-11, and(FOUR, x -> x.lose(0, 0)), x -> x.seal(0, 0));
        refused(-12, FOUR, x -> x.punch(0, 0, 3, 0));
        refused(-13, FOUR, x -> x.strip(0, 0, 0, -1, 0));
        refused(-14, FOUR, x -> x.copy(0, 0, 0, 4, 0, 0, 0));
        refused(-15, FOUR, x -> x.transpose(0, 1, 0));
        refused(-16, and(and(FOUR, x -> x.instrument(0)), x -> x.chest(1, 1)), x -> x.place(0, 0, 0));
        refused(-17, and(FOUR, x -> setHead(x, 2, 4)), x -> x.read(0, 0));
        refused(-18, and(FOUR, x -> setHead(x, 2, 2)), x -> x.read(0, 0));
        refused(-19, and(FOUR, x -> setHead(x, 3, 2)), x -> x.read(0, 0));
        // Spoilt is told by an event alone: the tick itself went.
        Player x = rolls(1);
        x.instrument(0);
        x.chest(7, 1);
        x.place(0, 0, 0);
        x.wire(0, 0, 0);
        x.spoil(0, 1);
        x.strip(0, 0, 0, 1, 1);
        x.punch(0, 0, 0, 1);
        x.play(0);
        is(x, x.tick(1), 1, 0);
        is(x, x.event(1, 3), 10, 0);
    }

    private static void longs() {
        says("What answers a long tells 0 in place of all these but NONE, which it has not.");
        Make seven = and(FOUR, x -> x.instrument(3));
        refusedLong(BAD, FOUR, x -> x.head(0, 4, 0));
        refusedLong(BAD, FOUR, x -> x.head(0, 0, 4));
        refusedLong(LOST, and(FOUR, x -> x.lose(0, 0)), x -> x.head(0, 0, 0));
        refusedLong(TORN, and(FOUR, x -> x.tear(0, 0, 0)), x -> x.head(0, 0, 0));
        refusedLong(BAD, FOUR, x -> x.sum(1, 0));
        refusedLong(LOST, and(FOUR, x -> x.lose(0, 0)), x -> x.sum(0, 0));
        refusedLong(TORN, and(FOUR, x -> x.tear(0, 0, 4)), x -> x.sum(0, 0));
        refusedLong(BAD, seven, x -> x.frequency(1));
        refusedLong(KIND, seven, x -> x.frequency(0));
        refusedLong(BAD, FOUR, x -> x.digest(1));
        // A 0 that is an answer is told apart by status().
        let(0, FOUR, x -> x.head(0, 0, 0));
        // And so is an answer that looks like a refusal.
        let(-1, and(FOUR, x -> setHead(x, 1, -1)), x -> x.head(0, 0, 1));
        let(-4, and(FOUR, x -> setHead(x, 2, -4)), x -> x.head(0, 0, 2));
        let(-11, and(FOUR, x -> setHead(x, 3, -11)), x -> x.head(0, 0, 3));
    }

    /** Every act that says BUSY, asked for what it would do if nothing were played. */
    private static Act[] busyActs() {
        return new Act[] { x -> x.roll(), x -> x.strip(0, 0, 0, 0, 0), x -> x.punch(0, 0, 0, 1), x -> x.seal(0, 3),
            x -> x.lose(0, 0), x -> x.tear(0, 0, 0), x -> x.damage(0, 0, 0, 1), x -> x.instrument(0), x -> x.couple(1, 0),
            x -> x.chest(7, 1), x -> x.place(0, 0, 1), x -> x.wire(0, -1, 0), x -> x.spoil(0, 9), x -> x.tune(0, 3, 2),
            x -> x.base(16), x -> x.play(1), x -> x.cut(0, 0), x -> x.join(0, 1), x -> x.repeat(0, 0, 1),
            x -> x.move(0, 0, 1, 1, 0), x -> x.copy(0, 0, 0, 1, 1, 0, 1), x -> x.transpose(0, 0, 1),
            x -> x.mend(0, 3, 1) };
    }

    private static void nothingHasChanged() {
        says("Behind BAD, BUSY, FULL, NONE, a FINDING nothing has changed, but status() and trace().");
        Make make = () -> {
            Player x = four();
            x.damage(0, 3, 9, 1);
            x.roll();
            x.strip(1, 0, 300, 5, 1);
            x.punch(1, 0, 0, 0xff);
            x.strip(1, 3, 300, 5, 1);
            x.transpose(1, 0, -2);
            x.instrument(0);
            x.instrument(6);
            x.chest(7, 1);
            x.place(0, 0, 0);
            x.wire(0, 0, 0);
            x.spoil(0, 5);
            return x;
        };
        Make playing = () -> {
            Player x = make.one();
            x.play(1);
            x.tick(1);
            return x;
        };
        for (Act act : busyActs()) {
            refused(BUSY, playing, act);
            // The same act is let through as soon as nothing is played.
            Player x = and(playing, y -> y.halt()).one();
            long got = act.on(x);
            is(x, got < 0 ? 1 : 0, 0, 0);
        }
        refused(NONE, playing, x -> x.back(2));
        refused(NONE, playing, x -> x.open(7));
        refused(NONE, playing, x -> x.sounding(1, 0));
        refused(NONE, playing, x -> x.event(2, 0));
        refused(NONE, make, x -> x.mend(0, 3, 0));
        refused(LOST, and(make, x -> x.lose(0, 1)), x -> x.transpose(0, 1, 1) == KIND ? x.seal(0, 1) : 0);
    }

    /** Each act with each of its numbers at the ends of int: it answers, and refuses what is not there. */
    private static void ends() {
        says("BAD -1: a number is not as told, or there is no such thing");
        for (int v : new int[] { MIN, MIN + 1, MAX - 1, MAX }) {
            List<Act> acts = new ArrayList<>(List.of(x -> x.strip(v, v, v, v, v), x -> x.punch(v, v, v, v),
                x -> x.seal(v, v), x -> x.lose(v, v), x -> x.tear(v, v, v), x -> x.damage(v, v, v, v)));
            acts.addAll(List.of(x -> x.byteOf(v, v, v), x -> x.read(v, v), x -> x.whole(v), x -> x.finding(v, v),
                x -> x.told(v, v, v), x -> x.instrument(v), x -> x.couple(v, v), x -> x.chest(v, v)));
            acts.addAll(List.of(x -> x.place(v, v, v), x -> x.wire(v, v, v), x -> x.spoil(v, v), x -> x.tune(v, v, v),
                x -> x.base(v), x -> x.mute(v), x -> x.higher(v, v), x -> x.play(v), x -> x.tick(v)));
            acts.addAll(List.of(x -> x.back(v), x -> x.open(v), x -> x.sounding(v, v), x -> x.level(v),
                x -> x.stop(v), x -> x.at(v), x -> x.times(v, v), x -> x.event(v, v), x -> x.cut(v, v)));
            acts.addAll(List.of(x -> x.join(v, v), x -> x.repeat(v, v, v), x -> x.move(v, v, v, v, v),
                x -> x.copy(v, v, v, v, v, v, v), x -> x.transpose(v, v, v), x -> x.fallen(v, v), x -> x.mend(v, v, v)));
            acts.addAll(List.of(x -> x.equal(v, v), x -> x.count(v), x -> x.strips(v), x -> x.members(v),
                x -> x.trace(v)));
            for (Act act : acts) {
                refused(BAD, FOUR, act);
                refused(BAD, playing(FOUR), act);
            }
            List<Act> longs = List.of(x -> x.head(v, v, v), x -> x.sum(v, v), x -> x.frequency(v), x -> x.digest(v));
            for (Act act : longs) refusedLong(BAD, FOUR, act);
            refused(v < 0 ? BAD : NONE, FOUR, x -> x.loud(v));
        }
    }

    private static void promise49() {
        says("0 ROLLS, 1 INSTRUMENTS, 2 CHESTS, 3 EVENTS ever since the latest ROLL began, 4 that sound, 5 FALLEN, 6 ELEMENTS, 7 PLACES. BAD.");
        for (Make make : new Make[] { Player::new, FOUR, playing(FOUR) }) within(0, 7, make, (x, v) -> x.count(v));
        for (int what = 0; what < 8; what++) {
            int w = what;
            let(0, Player::new, x -> x.count(w));
        }
        let(20, () -> rolls(20), x -> x.count(0));
        let(8000, () -> elements(8000), x -> x.count(6));
        let(0, and(() -> of(3, 256), x -> x.lose(0, 0)), x -> x.count(6));
        let(255, and(() -> of(3, 256), x -> x.tear(0, 0, 9 + 1023)), x -> x.count(6));
        let(255, and(() -> of(3, 256), x -> x.tear(0, 0, 9 + 1020)), x -> x.count(6));
        let(254, and(() -> of(3, 256), x -> x.tear(0, 0, 9 + 1019)), x -> x.count(6));
        Player x = rolls(1);
        for (int i = 0; i < 60; i++) x.instrument(0);
        for (int i = 0; i < 15; i++) x.chest(0, 13);
        x.chest(0, 5);
        is(x, x.count(1), 60, 0);
        is(x, x.count(2), 16, 0);
        is(x, x.count(7), 200, 0);
        // Since the latest roll began; it is over, and still told.
        Player y = and(playing(FOUR), z -> z.tick(9)).one();
        is(y, y.count(3), 4, 0);
        y.play(0);
        is(y, y.count(3), 0, 0);
    }

    private static void promise50() {
        says("How many STRIPS a ROLL has. BAD.");
        let(0, () -> rolls(1), x -> x.strips(0));
        let(200, () -> strips(400), x -> x.strips(1));
        let(4, and(FOUR, x -> x.lose(0, 0)), x -> x.strips(0));
        within(0, 19, () -> rolls(20), (x, v) -> x.strips(v));
        refused(BAD, Player::new, x -> x.strips(0));
    }

    private static void promise51() {
        says("How many MEMBERS a COUPLER has. BAD; KIND.");
        Make all = () -> {
            Player x = rolls(1);
            for (int kind = 0; kind < 7; kind++) x.instrument(kind);
            for (int i = 0; i < 8; i++) x.couple(6, i % 6);
            return x;
        };
        let(8, all, x -> x.members(6));
        let(0, and(all, x -> x.instrument(6)), x -> x.members(7));
        for (int kind = 0; kind < 6; kind++) {
            int k = kind;
            refused(KIND, all, x -> x.members(k));
            refused(KIND, playing(all), x -> x.members(k));
        }
        for (int number : new int[] { -1, 7, MIN, MAX }) refused(BAD, all, x -> x.members(number));
        refused(BAD, Player::new, x -> x.members(0));
    }

    private static void promise52() {
        says("How often BODY b was done, ever. BAD: b is not 0 .. 16.");
        for (Make make : new Make[] { Player::new, FOUR, playing(FOUR) }) within(0, 16, make, (x, v) -> x.trace(v));
        Player x = rolls(1);
        x.instrument(2);
        for (int i = 1; i < 50; i++) {
            x.frequency(0);
            is(x, x.trace(10), i, 0);
            is(x, x.trace(9), i);
            is(x, x.trace(8), i);
        }
        // Neither a new roll nor going back takes what was done away.
        x.play(0);
        is(x, x.back(0), 0);
        is(x, x.trace(10), 49, 0);
    }

    private static void promise53() {
        says("How the latest act but status() went: 0, or BAD, BUSY, FULL, or its FINDING (1 .. 10).");
        says("status() tells of the latest act but status(): 0, or BAD, BUSY, FULL, or its FINDING (1 .. 10).");
        Act[] acts = { x -> x.roll(), x -> x.strip(0, 9, 0, 0, 0), x -> x.strip(0, 0, 0, -1, 0), x -> x.read(0, 0),
            x -> x.copy(0, 0, 0, 9, 0, 0, 0), x -> x.transpose(0, 1, 1), x -> x.finding(0, 99), x -> x.chest(0, 201),
            x -> x.punch(0, 0, 9, 0), x -> x.move(0, 0, 1, 0, 9), x -> x.move(0, 0, 1, 0, 1), x -> x.count(0),
            x -> x.head(0, 0, 3), x -> x.sum(0, 0), x -> x.digest(0), x -> x.head(0, 0, 4), x -> x.digest(9) };
        int[] due = { 0, BAD, 3, 0, 4, 5, 0, FULL, 2, 2, 5, 0, 0, 0, 0, BAD, BAD };
        // Each behind each other one: only the latest counts, whatever was before.
        for (int i = 0; i < acts.length; i++) {
            for (int j = 0; j < acts.length; j++) {
                Player x = four();
                acts[i].on(x);
                is(x, 0, 0, due[i]);
                acts[j].on(x);
                is(x, 0, 0, due[j]);
            }
        }
        Player x = new Player();
        is(x, x.status(), 0);
        is(x, x.status(), 0);
    }
}
