/**
 * RollPlayer's face once more, each call noted, so that a test can tell the whole run when an answer is not
 * as due, and counted, since the document promises no more than 512 calls.
 */
final class Player {
    private static final int PROMISED = 512;

    private final RollPlayer x = new RollPlayer();
    private final StringBuilder run = new StringBuilder();
    private int calls;

    private long note(long answer, String name, int... arguments) {
        count();
        run.append(name).append('(');
        for (int i = 0; i < arguments.length; i++) run.append(i == 0 ? "" : ", ").append(arguments[i]);
        run.append(") ").append(answer).append("; ");
        return answer;
    }

    private void count() {
        calls++;
        if (calls == PROMISED + 1) Due.isTrue(false, "a test goes beyond 512 calls: " + run);
    }

    String run() {
        return run.toString();
    }

    int status() {
        count();
        return x.status();
    }

    int roll() {
        return (int) note(x.roll(), "roll");
    }

    int strip(int roll, int kind, int number, int n, int ticks) {
        return (int) note(x.strip(roll, kind, number, n, ticks), "strip", roll, kind, number, n, ticks);
    }

    int punch(int roll, int strip, int k, int v) {
        return (int) note(x.punch(roll, strip, k, v), "punch", roll, strip, k, v);
    }

    int seal(int roll, int strip) {
        return (int) note(x.seal(roll, strip), "seal", roll, strip);
    }

    int lose(int roll, int strip) {
        return (int) note(x.lose(roll, strip), "lose", roll, strip);
    }

    int tear(int roll, int strip, int n) {
        return (int) note(x.tear(roll, strip, n), "tear", roll, strip, n);
    }

    int damage(int roll, int strip, int i, int mask) {
        return (int) note(x.damage(roll, strip, i, mask), "damage", roll, strip, i, mask);
    }

    int byteOf(int roll, int strip, int i) {
        return (int) note(x.byteOf(roll, strip, i), "byteOf", roll, strip, i);
    }

    long head(int roll, int strip, int what) {
        return note(x.head(roll, strip, what), "head", roll, strip, what);
    }

    long sum(int roll, int strip) {
        return note(x.sum(roll, strip), "sum", roll, strip);
    }

    int read(int roll, int strip) {
        return (int) note(x.read(roll, strip), "read", roll, strip);
    }

    int whole(int roll) {
        return (int) note(x.whole(roll), "whole", roll);
    }

    int finding(int roll, int k) {
        return (int) note(x.finding(roll, k), "finding", roll, k);
    }

    int told(int roll, int strip, int what) {
        return (int) note(x.told(roll, strip, what), "told", roll, strip, what);
    }

    int instrument(int kind) {
        return (int) note(x.instrument(kind), "instrument", kind);
    }

    int couple(int coupler, int member) {
        return (int) note(x.couple(coupler, member), "couple", coupler, member);
    }

    int chest(int kind, int n) {
        return (int) note(x.chest(kind, n), "chest", kind, n);
    }

    int place(int chest, int i, int instrument) {
        return (int) note(x.place(chest, i, instrument), "place", chest, i, instrument);
    }

    int wire(int track, int chest, int i) {
        return (int) note(x.wire(track, chest, i), "wire", track, chest, i);
    }

    int spoil(int instrument, int n) {
        return (int) note(x.spoil(instrument, n), "spoil", instrument, n);
    }

    int tune(int instrument, int p, int q) {
        return (int) note(x.tune(instrument, p, q), "tune", instrument, p, q);
    }

    int base(int v) {
        return (int) note(x.base(v), "base", v);
    }

    long frequency(int instrument) {
        return note(x.frequency(instrument), "frequency", instrument);
    }

    int mute(int instrument) {
        return (int) note(x.mute(instrument), "mute", instrument);
    }

    int higher(int one, int other) {
        return (int) note(x.higher(one, other), "higher", one, other);
    }

    int play(int roll) {
        return (int) note(x.play(roll), "play", roll);
    }

    int tick(int n) {
        return (int) note(x.tick(n), "tick", n);
    }

    int halt() {
        return (int) note(x.halt(), "halt");
    }

    int back(int n) {
        return (int) note(x.back(n), "back", n);
    }

    int open(int track) {
        return (int) note(x.open(track), "open", track);
    }

    int sounding(int k, int what) {
        return (int) note(x.sounding(k, what), "sounding", k, what);
    }

    int loud(int k) {
        return (int) note(x.loud(k), "loud", k);
    }

    int level(int track) {
        return (int) note(x.level(track), "level", track);
    }

    int stop(int chest) {
        return (int) note(x.stop(chest), "stop", chest);
    }

    int at(int what) {
        return (int) note(x.at(what), "at", what);
    }

    int times(int instrument, int what) {
        return (int) note(x.times(instrument, what), "times", instrument, what);
    }

    int event(int k, int what) {
        return (int) note(x.event(k, what), "event", k, what);
    }

    int cut(int roll, int k) {
        return (int) note(x.cut(roll, k), "cut", roll, k);
    }

    int join(int roll, int other) {
        return (int) note(x.join(roll, other), "join", roll, other);
    }

    int repeat(int roll, int i, int n) {
        return (int) note(x.repeat(roll, i, n), "repeat", roll, i, n);
    }

    int move(int roll, int i, int n, int to, int j) {
        return (int) note(x.move(roll, i, n, to, j), "move", roll, i, n, to, j);
    }

    int copy(int roll, int strip, int from, int n, int to, int other, int at) {
        return (int) note(x.copy(roll, strip, from, n, to, other, at), "copy", roll, strip, from, n, to, other, at);
    }

    int transpose(int roll, int strip, int n) {
        return (int) note(x.transpose(roll, strip, n), "transpose", roll, strip, n);
    }

    int fallen(int k, int what) {
        return (int) note(x.fallen(k, what), "fallen", k, what);
    }

    int mend(int roll, int strip, int other) {
        return (int) note(x.mend(roll, strip, other), "mend", roll, strip, other);
    }

    int equal(int roll, int other) {
        return (int) note(x.equal(roll, other), "equal", roll, other);
    }

    long digest(int roll) {
        return note(x.digest(roll), "digest", roll);
    }

    int count(int what) {
        return (int) note(x.count(what), "count", what);
    }

    int strips(int roll) {
        return (int) note(x.strips(roll), "strips", roll);
    }

    int members(int coupler) {
        return (int) note(x.members(coupler), "members", coupler);
    }

    int trace(int b) {
        return (int) note(x.trace(b), "trace", b);
    }
}
