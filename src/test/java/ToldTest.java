/** Promises 49 to 53: what is told; and the order of the answers. */
final class ToldTest {
    public static void main(String[] args) {
        promise49();
        promise50();
        promise51();
        promise52();
        promise53();
        busyActs();
        actsThatAreNotBusy();
        Due.end("ToldTest");
    }

    private static void promise49() {
        RollPlayer x = new RollPlayer();
        Due.refused(x, x.count(-1), Due.BAD);
        Due.refused(x, x.count(8), Due.BAD);
        x.roll();
        x.roll();
        x.strip(1, 0, 0, 5, 2);
        x.strip(1, 3, 0, 6, 2);
        x.punch(1, 0, 0, 0x83);
        for (int i = 0; i < 3; i++) x.instrument(6);
        x.couple(0, 1);
        for (int i = 0; i < 4; i++) x.chest(7, 10 + i);
        x.place(0, 0, 0);
        x.wire(0, 0, 0);
        int[] due = { 2, 3, 4, 0, 0, 0, 11, 46 };
        for (int what = 0; what < 8; what++) Due.is(x, x.count(what), due[what], 0);
        Due.is(x.transpose(1, 0, 1), 1);
        x.punch(1, 0, 0, 0x83);
        x.tear(1, 1, 15);
        x.play(1);
        x.tick(1);
        // The strip that began, two that opened.
        int[] then = { 2, 3, 4, 3, 2, 1, 6, 46 };
        for (int what = 0; what < 8; what++) Due.is(x, x.count(what), then[what], 0);
        x.halt();
        Due.is(x.count(3), 5);
        Due.is(x.count(4), 0);
        x.cut(1, 1);
        Due.is(x.count(0), 3);
        Due.is(x.count(6), 6);
        x.play(0);
        Due.is(x.count(3), 0);
    }

    private static void promise50() {
        RollPlayer x = new RollPlayer();
        Due.refused(x, x.strips(0), Due.BAD);
        x.roll();
        x.roll();
        for (int i = 0; i < 5; i++) {
            Due.is(x, x.strips(0), i, 0);
            x.strip(0, 0, 0, 0, 0);
        }
        x.lose(0, 1);
        Due.is(x.strips(0), 5);
        Due.is(x, x.strips(1), 0, 0);
        Due.refused(x, x.strips(2), Due.BAD);
        Due.refused(x, x.strips(-1), Due.BAD);
    }

    private static void promise51() {
        RollPlayer x = new RollPlayer();
        Due.refused(x, x.members(0), Due.BAD);
        for (int kind = 0; kind < 7; kind++) x.instrument(kind);
        for (int kind = 0; kind < 6; kind++) Due.refused(x, x.members(kind), Due.KIND);
        Due.is(x, x.members(6), 0, 0);
        x.couple(6, 0);
        x.couple(6, 0);
        Due.is(x, x.members(6), 2, 0);
        x.instrument(6);
        x.couple(7, 6);
        Due.is(x.members(7), 1);
        Due.refused(x, x.members(8), Due.BAD);
        Due.refused(x, x.members(-1), Due.BAD);
    }

    private static void promise52() {
        RollPlayer x = new RollPlayer();
        Due.refused(x, x.trace(-1), Due.BAD);
        Due.refused(x, x.trace(17), Due.BAD);
        Due.refused(x, x.trace(Due.MAX), Due.BAD);
        Due.is(x, x.trace(0), 0, 0);
        x.instrument(0);
        x.chest(7, 1);
        x.place(0, 0, 0);
        x.wire(0, 0, 0);
        x.roll();
        x.strip(0, 0, 0, 1, 1);
        x.punch(0, 0, 0, 1);
        for (int i = 1; i < 5; i++) {
            x.play(0);
            x.tick(1);
            x.back(1);
            x.tick(1);
            x.loud(0);
            x.loud(0);
            Due.is(x, x.trace(0), 2 * i, 0);
            Due.is(x, x.trace(6), 2 * i, 0);
            Due.is(x, x.trace(8), 2 * i, 0);
            // Ever: neither a new roll nor back takes them away; what back undoes is not ended.
            Due.is(x, x.trace(14), 2 * i, 0);
            Due.is(x, x.trace(16), i - 1, 0);
            x.halt();
            Due.is(x.trace(16), i);
        }
        Due.is(x.trace(15), 0);
    }

    private static void promise53() {
        RollPlayer x = new RollPlayer();
        Due.is(x.status(), 0);
        x.roll();
        x.roll();
        x.strip(0, 0, 0, 1, 1);
        // Each told until the next act, whatever that asks for.
        Due.is(x, x.strip(0, 0, 0, 999, 1), Due.BAD, -1);
        Due.is(x, x.count(0), 2, 0);
        Due.is(x, x.lose(5, 5), Due.BAD, -1);
        Due.is(x, x.lose(0, 0), 1, 0);
        Due.is(x, x.read(0, 0), Due.LOST, 1);
        Due.is(x, x.finding(0, 0), 0, 0);
        Due.is(x, x.read(0, 0), Due.LOST, 1);
        Due.is(x, x.finding(0, 1), Due.NONE, 0);
        Due.is(x, x.sum(0, 0), 0, 1);
        Due.is(x, x.digest(1), 7, 0);
        Due.is(x, x.head(0, 0, 9), 0, -1);
        Due.is(x, x.frequency(0), 0, -1);
        Due.is(x, x.play(0), 1, 0);
        Due.is(x, x.roll(), Due.BUSY, -3);
        Due.is(x, x.tick(1), 1, 0);
        Due.is(x, x.roll(), Due.BUSY, -3);
        Due.is(x, x.back(9), Due.NONE, 0);
        Due.is(x, x.roll(), Due.BUSY, -3);
        Due.is(x, x.halt(), 0, 0);
        Due.is(x, x.chest(0, 999), Due.FULL, -2);
        Due.is(x, x.trace(0), 0, 0);
        Due.is(x, x.move(0, 0, 1, 0, 0), 0, 1);
        Due.is(x, x.move(0, 0, 0, 0, 0), 0, 0);
    }

    /** Each act that says BUSY: it is refused so, behind what is BAD, and changes nothing. */
    private static void busyActs() {
        RollPlayer x = new RollPlayer();
        x.roll();
        x.roll();
        x.strip(0, 0, 1, 4, 9);
        x.strip(0, 0, 1, 4, 9);
        x.damage(0, 1, 9, 1);
        x.instrument(0);
        x.instrument(6);
        x.chest(7, 2);
        x.wire(0, 0, 0);
        x.play(0);
        long digest = x.digest(0);
        long[] answers = { x.roll(), x.strip(0, 0, 0, 0, 0), x.punch(0, 0, 0, 1), x.seal(0, 1), x.lose(0, 0),
            x.tear(0, 0, 0), x.damage(0, 0, 0, 1), x.instrument(0), x.couple(1, 0), x.chest(0, 0), x.place(0, 0, 0),
            x.wire(0, -1, 0), x.spoil(0, 1), x.tune(0, 0, 0), x.base(1), x.play(0), x.cut(0, 0), x.join(1, 0),
            x.repeat(0, 0, 1), x.move(0, 0, 1, 0, 1), x.copy(0, 0, 0, 1, 0, 1, 0), x.transpose(0, 0, 1),
            x.mend(0, 1, 0) };
        for (long a : answers) Due.is(a, Due.BUSY);
        Due.is(x.digest(0), digest);
        Due.is(x.strips(1), 0);
        int[] counts = { 2, 2, 1, 0, 0, 0, 8, 2 };
        for (int what = 0; what < 8; what++) Due.is(x.count(what), counts[what]);
        Due.is(x.members(1), 0);
        Due.is(x.mute(0), 0);
        Due.is(x.frequency(0), Double.doubleToLongBits(440.0));
        x.halt();
        Due.is(x.spoil(0, 0), 0);
        // None of them is busy any more.
        long[] after = { x.strip(1, 0, 0, 0, 0), x.punch(0, 0, 0, 1), x.instrument(0), x.couple(1, 0), x.chest(0, 0),
            x.place(0, 0, 0), x.base(7040), x.mend(0, 1, 0), x.play(0) };
        for (long a : after) Due.isTrue(a >= 0, "an act is refused: " + a);
    }

    private static void actsThatAreNotBusy() {
        RollPlayer x = new RollPlayer();
        x.roll();
        x.strip(0, 0, 1, 4, 9);
        x.instrument(0);
        x.instrument(6);
        x.play(0);
        long[] answers = { x.byteOf(0, 0, 0), x.head(0, 0, 0), x.sum(0, 0), x.read(0, 0), x.whole(0), x.finding(0, 0),
            x.told(0, 0, 0), x.frequency(0), x.mute(0), x.higher(0, 0), x.open(0), x.sounding(0, 0), x.loud(0),
            x.level(0), x.stop(0), x.at(0), x.times(0, 0), x.event(0, 0), x.fallen(0, 0), x.equal(0, 0), x.digest(0),
            x.count(0), x.strips(0), x.members(1), x.trace(0), x.tick(1), x.back(1), x.halt() };
        for (long a : answers) Due.isTrue(a != Due.BUSY, "an act is busy");
    }
}
