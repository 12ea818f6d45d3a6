/** Promises 39 to 48: editing. */
final class EditingTest {
    private static final int HOLES = 0, LEVELS = 1, STOPS = 2, TEMPO = 3;

    public static void main(String[] args) {
        promise39();
        promise40();
        promise40Room();
        promise41();
        promise42();
        promise42Room();
        promise43();
        promise44();
        promise45();
        promise46();
        promise47();
        promise48();
        Due.end("EditingTest");
    }

    /** A roll of strips of the kinds told, numbered from 100 on, of 2, 3, .. elements, the first of each 1, 2, .. */
    private static void roll(RollPlayer x, int... kinds) {
        int r = x.roll();
        for (int i = 0; i < kinds.length; i++) {
            x.strip(r, kinds[i], 100 + i, 2 + i, i);
            x.punch(r, i, 0, 1 + i);
        }
    }

    private static void numbers(RollPlayer x, int roll, int... due) {
        Due.is(x.strips(roll), due.length);
        for (int i = 0; i < due.length; i++) Due.is(x.told(roll, i, 1), due[i]);
    }

    /** Whether a strip has the bytes of another one, told byte by byte. */
    private static void sameBytes(RollPlayer x, int roll, int strip, int other, int otherStrip) {
        for (int i = 0; i < 1035; i++) {
            int b = x.byteOf(roll, strip, i);
            Due.is(b, x.byteOf(other, otherStrip, i));
            if (b < 0) return;
        }
    }

    private static void promise39() {
        RollPlayer x = new RollPlayer();
        roll(x, HOLES, LEVELS, STOPS, TEMPO);
        x.damage(0, 2, 9, 1);
        x.lose(0, 3);
        Due.refused(x, x.cut(1, 0), Due.BAD);
        Due.refused(x, x.cut(-1, 0), Due.BAD);
        Due.refused(x, x.cut(0, -1), Due.BAD);
        Due.refused(x, x.cut(0, 5), Due.BAD);
        Due.is(x, x.cut(0, 1), 1, 0);
        numbers(x, 0, 100);
        numbers(x, 1, 101, 102, 103);
        Due.is(x.read(1, 0), 3);
        Due.is(x.told(1, 0, 2), 1);
        Due.refused(x, x.read(1, 1), Due.SUM);
        Due.refused(x, x.read(1, 2), Due.LOST);
        Due.is(x.cut(1, 3), 2);
        numbers(x, 1, 101, 102, 103);
        numbers(x, 2);
        Due.is(x.cut(1, 0), 3);
        numbers(x, 1);
        numbers(x, 3, 101, 102, 103);
        Due.is(x.cut(1, 0), 4);
        Due.is(x.count(6), 9);
        for (int i = 5; i < 20; i++) x.roll();
        Due.refused(x, x.cut(0, 0), Due.FULL);
        Due.refused(x, x.cut(0, 2), Due.BAD);
        numbers(x, 0, 100);
        x.play(0);
        Due.refused(x, x.cut(0, 0), Due.BUSY);
        Due.refused(x, x.cut(0, 2), Due.BAD);
    }

    private static void promise40() {
        RollPlayer x = new RollPlayer();
        roll(x, HOLES, TEMPO);
        roll(x, LEVELS, STOPS, TEMPO, HOLES);
        x.lose(1, 0);
        x.tear(1, 1, 5);
        x.damage(1, 2, 0, 9);
        Due.refused(x, x.join(0, 0), Due.BAD);
        Due.refused(x, x.join(0, 2), Due.BAD);
        Due.refused(x, x.join(2, 0), Due.BAD);
        Due.refused(x, x.join(-1, 0), Due.BAD);
        Due.is(x, x.join(0, 1), 6, 0);
        numbers(x, 0, 100, 101, 100, 101, 102, 103);
        numbers(x, 1, 100, 101, 102, 103);
        for (int i = 0; i < 4; i++) {
            sameBytes(x, 0, 2 + i, 1, i);
            for (int what = 0; what < 4; what++) Due.is(x.told(0, 2 + i, what), x.told(1, i, what));
        }
        Due.refused(x, x.read(0, 2), Due.LOST);
        Due.refused(x, x.read(0, 3), Due.TORN);
        Due.refused(x, x.read(0, 4), Due.KIND);
        Due.is(x.read(0, 5), 5);
        Due.is(x.count(6), 5 + 2 * 9);
        // Copies: each goes its own way.
        x.punch(0, 5, 0, 77);
        Due.is(x.byteOf(1, 3, 9), 4);
        x.lose(1, 3);
        Due.is(x.read(0, 5), 5);
        x.roll();
        Due.is(x.join(2, 0), 6);
        Due.is(x.equal(2, 0), 1);
        x.roll();
        Due.is(x.join(2, 3), 6);
        x.play(3);
        Due.refused(x, x.join(2, 3), Due.BUSY);
        Due.refused(x, x.join(2, 2), Due.BAD);
    }

    private static void promise40Room() {
        RollPlayer x = new RollPlayer();
        x.roll();
        x.roll();
        for (int i = 0; i < 16; i++) x.strip(0, HOLES, 0, 250, 0);
        Due.is(x.join(1, 0), 16);
        Due.is(x.count(6), 8000);
        x.roll();
        Due.refused(x, x.join(2, 0), Due.FULL);
        Due.is(x.strips(2), 0);
        Due.is(x.count(6), 8000);
        x.tear(0, 0, 258);
        Due.refused(x, x.join(2, 0), Due.FULL);
        for (int i = 0; i < 16; i++) x.lose(0, i);
        Due.is(x.join(2, 0), 16);
        Due.is(x.join(2, 1), 32);
        Due.is(x.count(6), 8000);
        // A roll of two, its first or its last having one too many.
        x.tear(2, 31, 9 + 248);
        x.roll();
        x.roll();
        x.strip(3, HOLES, 0, 1, 0);
        x.strip(3, HOLES, 0, 0, 0);
        Due.is(x.join(4, 3), 2);
        Due.refused(x, x.join(4, 3), Due.FULL);
        x.roll();
        x.strip(5, HOLES, 0, 0, 0);
        x.tear(4, 0, 9);
        x.strip(5, HOLES, 0, 1, 0);
        Due.refused(x, x.join(4, 5), Due.FULL);
        x.lose(5, 1);
        Due.is(x.join(4, 5), 4);
        x.play(0);
        Due.refused(x, x.join(4, 2), Due.BUSY);

        RollPlayer y = new RollPlayer();
        y.roll();
        y.roll();
        for (int i = 0; i < 199; i++) y.strip(0, HOLES, 0, 1, 0);
        Due.is(y.join(1, 0), 199);
        y.roll();
        y.strip(2, HOLES, 0, 0, 0);
        Due.refused(y, y.join(1, 0), Due.FULL);
        Due.is(y.join(1, 2), 200);
        Due.refused(y, y.join(1, 2), Due.FULL);
        Due.refused(y, y.repeat(1, 0, 1), Due.FULL);
        Due.is(y.repeat(1, 0, 0), 200);
        Due.is(y.strips(1), 200);
        // With 400 strips there is room for bytes.
        Due.is(y, y.move(0, 0, 8, 1, 0), 8, 0);
        y.lose(1, 0);
        Due.is(y, y.mend(1, 0, 0), 0, 0);
        y.play(0);
        Due.refused(y, y.join(1, 2), Due.BUSY);
        Due.refused(y, y.repeat(1, 0, 1), Due.BUSY);
        Due.refused(y, y.repeat(1, 0, 9), Due.BAD);
    }

    private static void promise41() {
        RollPlayer x = new RollPlayer();
        roll(x, HOLES, LEVELS, STOPS, TEMPO);
        x.lose(0, 1);
        x.damage(0, 2, 8, 1);
        Due.refused(x, x.repeat(1, 0, 1), Due.BAD);
        Due.refused(x, x.repeat(-1, 0, 1), Due.BAD);
        Due.refused(x, x.repeat(0, 0, -1), Due.BAD);
        Due.refused(x, x.repeat(0, 0, 9), Due.BAD);
        Due.refused(x, x.repeat(0, 0, 5), Due.BAD);
        Due.refused(x, x.repeat(0, 3, 2), Due.BAD);
        Due.refused(x, x.repeat(0, -1, 1), Due.BAD);
        Due.refused(x, x.repeat(0, 4, 1), Due.BAD);
        Due.refused(x, x.repeat(0, Due.MAX, 1), Due.BAD);
        Due.refused(x, x.repeat(0, Due.MIN, 8), Due.BAD);
        Due.is(x, x.repeat(0, 0, 0), 4, 0);
        Due.is(x, x.repeat(0, 4, 0), 4, 0);
        Due.is(x, x.repeat(0, 1, 2), 6, 0);
        numbers(x, 0, 100, 101, 102, 101, 102, 103);
        Due.refused(x, x.read(0, 3), Due.LOST);
        sameBytes(x, 0, 4, 0, 2);
        for (int what = 0; what < 4; what++) Due.is(x.told(0, 4, what), x.told(0, 2, what));
        Due.is(x.read(0, 5), 5);
        x.seal(0, 4);
        Due.refused(x, x.read(0, 2), Due.SUM);
        Due.is(x.read(0, 4), 4);
        Due.is(x.repeat(0, 5, 1), 7);
        numbers(x, 0, 100, 101, 102, 101, 102, 103, 103);
        x.cut(0, 1);
        Due.is(x.repeat(0, 0, 1), 2);
        numbers(x, 0, 100, 100);
        x.repeat(0, 0, 2);
        Due.is(x.repeat(0, 0, 4), 8);
        Due.is(x.repeat(0, 0, 8), 16);
        x.play(0);
        Due.refused(x, x.repeat(0, 0, 1), Due.BUSY);
        Due.refused(x, x.repeat(0, 0, 9), Due.BAD);

        RollPlayer y = new RollPlayer();
        y.roll();
        for (int i = 0; i < 31; i++) y.strip(0, HOLES, i, 256, 0);
        y.strip(0, HOLES, 31, 32, 0);
        Due.is(y.repeat(0, 31, 1), 33);
        Due.refused(y, y.repeat(0, 31, 1), Due.FULL);
        Due.is(y.strips(0), 33);
        y.lose(0, 31);
        // Only those that are copied need room, not the next one.
        Due.is(y.repeat(0, 31, 1), 34);
        Due.is(y.repeat(0, 33, 1), 35);
        Due.is(y.count(6), 8000);
        Due.is(y.repeat(0, 31, 2), 37);
        Due.refused(y, y.repeat(0, 32, 4), Due.FULL);
    }

    private static void promise42() {
        RollPlayer x = new RollPlayer();
        roll(x, HOLES, LEVELS, STOPS, TEMPO);
        roll(x, HOLES, LEVELS, TEMPO, STOPS);
        x.damage(0, 0, 8, 1);
        Due.refused(x, x.move(0, 0, -1, 1, 0), Due.BAD);
        Due.refused(x, x.move(0, 0, 9, 1, 0), Due.BAD);
        Due.refused(x, x.move(2, 0, 1, 1, 0), Due.BAD);
        Due.refused(x, x.move(0, 0, 1, 2, 0), Due.BAD);
        Due.is(x, x.move(0, Due.MIN, 0, 1, Due.MAX), 0, 0);
        x.punch(0, 1, 1, 0x1234);
        Due.is(x, x.move(0, 0, 2, 1, 0), 2, 0);
        sameBytes(x, 1, 0, 0, 0);
        sameBytes(x, 1, 1, 0, 1);
        Due.refused(x, x.read(1, 0), Due.SUM);
        // Unlike kinds: it ends there, with what came.
        Due.is(x, x.move(0, 0, 4, 1, 0), 2, 5);
        Due.is(x, x.move(0, 2, 1, 1, 2), 0, 5);
        // Not there, of either one, ahead of all else.
        Due.is(x, x.move(0, 3, 2, 1, 2), 1, 2);
        Due.is(x, x.move(0, 4, 1, 1, 0), 0, 2);
        Due.is(x, x.move(0, 0, 1, 1, 4), 0, 2);
        Due.is(x, x.move(0, -1, 2, 1, 0), 0, 2);
        Due.is(x, x.move(0, 0, 2, 1, -1), 0, 2);
        Due.is(x, x.move(0, Due.MAX, 8, 1, 0), 0, 2);
        Due.is(x, x.move(0, 0, 8, 1, Due.MAX), 0, 2);
        Due.is(x, x.move(0, Due.MIN, 8, 1, Due.MIN), 0, 2);
        // A strip keeps its list, so a moved number is another one than its own.
        Due.is(x.told(1, 2, 1), 102);
        Due.is(x.told(1, 2, 3), 5);
        Due.is(x.head(1, 2, 1), 103);
        Due.is(x.read(1, 2), 5);
        x.lose(1, 1);
        Due.is(x, x.move(0, 0, 3, 1, 0), 1, 1);
        Due.is(x, x.move(1, 0, 3, 0, 0), 1, 1);
        // Lost is told ahead of an unlike kind.
        Due.is(x, x.move(0, 2, 1, 1, 1), 0, 1);
        Due.refused(x, x.read(1, 1), Due.LOST);
        // Torn ones come as they are.
        x.tear(0, 0, 4);
        Due.is(x.move(0, 0, 1, 1, 0), 1);
        sameBytes(x, 1, 0, 0, 0);
        Due.refused(x, x.byteOf(1, 0, 4), Due.TORN);
        Due.is(x, x.move(0, 1, 1, 0, 1), 1, 0);
        for (int n = 2; n >= 0; n--) {
            x.tear(0, 0, n);
            if (n > 0) x.damage(0, 0, n - 1, 0x40);
            Due.is(x.move(0, 0, 1, 1, 0), 1);
            sameBytes(x, 1, 0, 0, 0);
        }

        // In one roll: one by one, so that what came goes on.
        RollPlayer y = new RollPlayer();
        roll(y, HOLES, HOLES, HOLES, HOLES);
        Due.is(y, y.move(0, 0, 3, 0, 1), 3, 0);
        for (int i = 1; i < 4; i++) {
            Due.is(y.byteOf(0, i, 9), 1);
            Due.is(y.told(0, i, 3), 2);
        }
        Due.is(y.count(6), 8);
        y.punch(0, 3, 0, 9);
        Due.is(y.byteOf(0, 2, 9), 1);
        Due.is(y.move(0, 1, 4, 0, 0), 3);
        Due.is(y.byteOf(0, 2, 9), 9);
        y.play(0);
        Due.refused(y, y.move(0, 0, 1, 0, 1), Due.BUSY);
        Due.refused(y, y.move(0, 0, 9, 0, 1), Due.BAD);
    }

    private static void promise42Room() {
        RollPlayer x = new RollPlayer();
        x.roll();
        for (int i = 0; i < 31; i++) x.strip(0, TEMPO, i, 256, 0);
        x.strip(0, TEMPO, 31, 30, 0);
        x.strip(0, TEMPO, 32, 31, 0);
        x.strip(0, TEMPO, 33, 1, 0);
        x.strip(0, HOLES, 34, 0, 0);
        Due.is(x.count(6), 7998);
        // 30 more would be 8028, 2 more 8000.
        Due.is(x, x.move(0, 32, 1, 0, 33), 0, Due.FULL);
        Due.is(x.told(0, 33, 3), 1);
        // Another kind is told ahead of that.
        Due.is(x, x.move(0, 32, 1, 0, 34), 0, 5);
        Due.is(x, x.move(0, 32, 1, 0, 31), 1, 0);
        Due.is(x.count(6), 7999);
        x.punch(0, 33, 0, 5);
        Due.is(x, x.move(0, 0, 2, 0, 31), 0, Due.FULL);
        Due.is(x, x.move(0, 33, 1, 0, 0), 1, 0);
        Due.is(x.count(6), 7744);
        // The longest comes to the shortest in place of it.
        Due.is(x, x.move(0, 1, 1, 0, 33), 1, 0);
        Due.is(x.told(0, 33, 3), 256);
        Due.is(x.count(6), 7999);
        Due.is(x.sum(0, 33), x.sum(0, 1));
        Due.is(x.head(0, 33, 1), 1);
        Due.is(x.read(0, 33), 256);
        // The second one has no room.
        x.tear(0, 31, 9 + 4 * 30);
        x.tear(0, 32, 9 + 4 * 30);
        x.strip(0, TEMPO, 35, 3, 0);
        Due.is(x.count(6), 8000);
        Due.is(x, x.move(0, 30, 2, 0, 33), 1, 5);
        Due.is(x, x.move(0, 32, 2, 0, 31), 1, Due.FULL);
    }

    private static void promise43() {
        for (int kind = 0; kind < 4; kind++) {
            RollPlayer x = new RollPlayer();
            x.roll();
            x.strip(0, kind, 1, 6, 0);
            x.strip(0, kind, 1, 4, 0);
            for (int k = 0; k < 6; k++) x.punch(0, 0, k, 0x01010101 * (k + 1));
            long sum = x.head(0, 1, 3);
            Due.is(x, x.copy(0, 0, 1, 3, 0, 1, 1), 3, 0);
            elements(x, kind, 1, 0, 2, 3, 4);
            Due.is(x.head(0, 1, 3), sum);
            Due.refused(x, x.read(0, 1), Due.SUM);
            elements(x, kind, 0, 1, 2, 3, 4, 5, 6);
            // Within one strip, as they were, either way.
            Due.is(x, x.copy(0, 0, 0, 5, 0, 0, 1), 5, 0);
            elements(x, kind, 0, 1, 1, 2, 3, 4, 5);
            Due.is(x.copy(0, 0, 1, 5, 0, 0, 0), 5);
            elements(x, kind, 0, 1, 2, 3, 4, 5, 5);
            Due.is(x, x.copy(0, 0, 6, 0, 0, 1, 4), 0, 0);
            Due.is(x.copy(0, 0, 0, 0, 0, 1, 0), 0);
            int[][] beyond = { { 7, 0, 0 }, { 0, 0, 5 }, { -1, 0, 0 }, { 0, 0, -1 }, { 0, -1, 0 }, { 4, 3, 0 },
                { 0, 3, 2 }, { 0, 7, 0 }, { 0, 5, 0 }, { -1, 2, 0 }, { 0, 2, -1 }, { Due.MAX, 1, 0 }, { 0, 1, Due.MAX },
                { 1, Due.MAX, 1 }, { Due.MAX, Due.MAX, Due.MAX }, { 0, Due.MIN, 0 }, { Due.MIN, Due.MIN, Due.MIN } };
            for (int[] b : beyond) Due.refused(x, x.copy(0, 0, b[0], b[1], 0, 1, b[2]), Due.SPAN);
            elements(x, kind, 1, 0, 2, 3, 4);
            Due.is(x.copy(0, 0, 2, 4, 0, 1, 0), 4);
            elements(x, kind, 1, 3, 4, 5, 5);
        }
        RollPlayer x = new RollPlayer();
        roll(x, HOLES, LEVELS);
        roll(x, HOLES, LEVELS, STOPS);
        Due.refused(x, x.copy(2, 0, 0, 1, 1, 0, 0), Due.BAD);
        Due.refused(x, x.copy(0, 2, 0, 1, 1, 0, 0), Due.BAD);
        Due.refused(x, x.copy(0, 0, 0, 1, 2, 0, 0), Due.BAD);
        Due.refused(x, x.copy(0, 0, 0, 1, 1, 3, 0), Due.BAD);
        Due.refused(x, x.copy(0, 1, 0, 1, 1, 2, 0), Due.KIND);
        Due.refused(x, x.copy(0, 1, 0, -1, 1, 2, 0), Due.KIND);
        x.punch(0, 1, 2, -3);
        Due.is(x.copy(0, 1, 2, 1, 1, 1, 0), 1);
        Due.is(x.byteOf(1, 1, 9), 255);
        Due.is(x.byteOf(1, 1, 10), 253);
        x.lose(0, 1);
        Due.refused(x, x.copy(0, 1, 0, 1, 1, 2, 0), Due.LOST);
        Due.refused(x, x.copy(1, 2, 0, -1, 0, 1, 0), Due.LOST);
        x.tear(1, 0, 3);
        Due.is(x, x.copy(0, 0, 2, 0, 1, 0, 0), 0, 0);
        Due.refused(x, x.copy(0, 0, 0, 1, 1, 0, 0), Due.SPAN);
        x.play(0);
        Due.refused(x, x.copy(0, 1, 0, 1, 1, 2, 0), Due.BUSY);
        Due.refused(x, x.copy(0, 1, 0, 1, 1, 3, 0), Due.BAD);
    }

    /** That each element of strip s of roll 0 has the told byte, in all of its bytes. */
    private static void elements(RollPlayer x, int kind, int s, int... due) {
        int width = kind == HOLES ? 1 : kind == TEMPO ? 4 : 2;
        for (int k = 0; k < due.length; k++) {
            for (int i = 0; i < width; i++) Due.is(x.byteOf(0, s, 9 + k * width + i), due[k]);
        }
        Due.refused(x, x.byteOf(0, s, 9 + due.length * width), Due.TORN);
    }

    private static void promise44() {
        RollPlayer x = new RollPlayer();
        roll(x, HOLES, LEVELS, STOPS, TEMPO, HOLES);
        Due.refused(x, x.transpose(0, 0, 8), Due.BAD);
        Due.refused(x, x.transpose(0, 0, -8), Due.BAD);
        Due.refused(x, x.transpose(0, 5, 0), Due.BAD);
        Due.refused(x, x.transpose(1, 0, 0), Due.BAD);
        for (int kind = 1; kind < 4; kind++) Due.refused(x, x.transpose(0, kind, 0), Due.KIND);
        x.lose(0, 1);
        Due.refused(x, x.transpose(0, 1, 0), Due.KIND);
        for (int n = -7; n <= 7; n++) {
            int fall = 0;
            int[] before = { 0x81, 0x5a, 0xff, 0x00, 0x18 };
            for (int k = 0; k < 5; k++) x.punch(0, 4, k, before[k]);
            for (int k = 0; k < 5; k++) fall += Integer.bitCount(n < 0 ? before[k] & ((1 << -n) - 1) : (before[k] << n) >> 8);
            Due.is(x, x.transpose(0, 4, n), fall, 0);
            Due.is(x.count(5), fall);
            Due.is(x.read(0, 4), 6);
            for (int k = 0; k < 5; k++) {
                Due.is(x.byteOf(0, 4, 9 + k), n < 0 ? before[k] >> -n : (before[k] << n) & 255);
            }
        }
        Due.is(x.count(5), 14);
        // Refused: what is fallen stays.
        Due.refused(x, x.transpose(0, 2, 1), Due.KIND);
        x.damage(0, 4, 8, 1);
        Due.refused(x, x.transpose(0, 4, 1), Due.SUM);
        x.damage(0, 4, 0, 1);
        Due.refused(x, x.transpose(0, 4, 1), Due.KIND);
        x.tear(0, 4, 2);
        Due.refused(x, x.transpose(0, 4, 1), Due.TORN);
        x.lose(0, 4);
        Due.refused(x, x.transpose(0, 4, 1), Due.LOST);
        Due.is(x.count(5), 14);
        // Its own number comes to its head.
        roll(x, HOLES, HOLES);
        x.move(1, 1, 1, 1, 0);
        Due.is(x.head(1, 0, 1), 101);
        Due.is(x, x.transpose(1, 0, 0), 0, 0);
        Due.is(x.head(1, 0, 1), 100);
        Due.is(x.count(5), 0);
        x.play(0);
        Due.refused(x, x.transpose(1, 0, 1), Due.BUSY);
        Due.refused(x, x.transpose(0, 2, 1), Due.BUSY);
        Due.refused(x, x.transpose(1, 0, 8), Due.BAD);

        RollPlayer y = new RollPlayer();
        y.roll();
        y.strip(0, HOLES, 0, 256, 0);
        for (int k = 0; k < 256; k++) y.punch(0, 0, k, 255);
        Due.is(y.transpose(0, 0, 7), 1792);
        Due.is(y.fallen(1791, 0), 255);
        Due.is(y.fallen(1791, 1), 7);
        Due.is(y.byteOf(0, 0, 264), 128);
    }

    private static void promise45() {
        RollPlayer x = new RollPlayer();
        roll(x, HOLES, HOLES);
        Due.refused(x, x.fallen(0, 0), Due.NONE);
        Due.refused(x, x.fallen(-1, 0), Due.BAD);
        Due.refused(x, x.fallen(0, 2), Due.BAD);
        Due.refused(x, x.fallen(0, -1), Due.BAD);
        x.punch(0, 1, 0, 0xb1);
        x.punch(0, 1, 2, 0xe8);
        Due.is(x.transpose(0, 1, 3), 5);
        int[][] due = { { 0, 5 }, { 0, 7 }, { 2, 5 }, { 2, 6 }, { 2, 7 } };
        for (int k = 0; k < 5; k++) {
            Due.is(x, x.fallen(k, 0), due[k][0], 0);
            Due.is(x, x.fallen(k, 1), due[k][1], 0);
        }
        Due.refused(x, x.fallen(5, 0), Due.NONE);
        Due.refused(x, x.fallen(Due.MAX, 1), Due.NONE);
        Due.refused(x, x.fallen(5, 2), Due.BAD);
        // In place of what was: now 0x88, 0x40.
        Due.is(x.transpose(0, 1, -4), 1);
        Due.is(x.fallen(0, 0), 0);
        Due.is(x.fallen(0, 1), 3);
        Due.refused(x, x.fallen(1, 0), Due.NONE);
        x.play(0);
        Due.is(x.fallen(0, 1), 3);
        x.tick(1);
        Due.is(x.count(5), 1);
    }

    private static void promise46() {
        RollPlayer x = new RollPlayer();
        roll(x, HOLES, LEVELS, TEMPO);
        x.roll();
        x.strip(1, LEVELS, 101, 9, 0);
        x.strip(1, HOLES, 100, 7, 0);
        x.strip(1, STOPS, 101, 7, 0);
        x.strip(1, LEVELS, 100, 7, 0);
        x.strip(1, LEVELS, 101, 5, 3);
        x.strip(1, LEVELS, 101, 6, 0);
        x.punch(1, 4, 2, -77);
        x.damage(1, 0, 8, 1);
        Due.refused(x, x.mend(2, 0, 0), Due.BAD);
        Due.refused(x, x.mend(0, 3, 0), Due.BAD);
        Due.refused(x, x.mend(0, 0, 2), Due.BAD);
        Due.refused(x, x.mend(0, -1, 1), Due.BAD);
        // Whole itself: as it is, whatever the other roll has.
        Due.is(x, x.mend(0, 1, 1), 1, 0);
        Due.is(x.told(0, 1, 3), 3);
        Due.is(x, x.mend(0, 2, 1), 2, 0);
        x.lose(0, 1);
        Due.is(x, x.mend(0, 1, 1), 4, 0);
        sameBytes(x, 0, 1, 1, 4);
        Due.is(x.read(0, 1), 5);
        Due.is(x.told(0, 1, 2), 1);
        x.punch(0, 1, 0, 1);
        Due.is(x.byteOf(1, 4, 10), 0);
        x.tear(0, 2, 3);
        Due.refused(x, x.mend(0, 2, 1), Due.NONE);
        Due.refused(x, x.mend(0, 2, 0), Due.NONE);
        Due.refused(x, x.read(0, 2), Due.TORN);
        // Of the same roll: its first whole one is behind it.
        Due.is(x, x.mend(1, 0, 1), 4, 0);
        Due.is(x.read(1, 0), 5);
        Due.is(x.count(6), 2 + 5 + 0 + 5 + 7 + 7 + 7 + 5 + 6);
        // By the list's number, not by the head's.
        x.roll();
        x.strip(2, HOLES, 100, 3, 0);
        x.strip(2, HOLES, 200, 4, 0);
        x.move(2, 1, 1, 2, 0);
        x.lose(0, 0);
        Due.is(x.mend(0, 0, 2), 0);
        Due.is(x.told(0, 0, 3), 4);
        Due.is(x.head(0, 0, 1), 200);
        x.play(0);
        Due.refused(x, x.mend(0, 0, 2), Due.BUSY);
        Due.refused(x, x.mend(0, 0, 3), Due.BAD);

        RollPlayer y = new RollPlayer();
        y.roll();
        for (int i = 0; i < 31; i++) y.strip(0, TEMPO, i, 256, 0);
        y.strip(0, TEMPO, 0, 63, 0);
        y.tear(0, 31, 9);
        y.strip(0, TEMPO, 0, 64, 0);
        Due.refused(y, y.mend(0, 31, 0), Due.FULL);
        Due.is(y.told(0, 31, 3), 0);
        y.tear(0, 30, 9 + 4 * 64);
        Due.refused(y, y.mend(0, 31, 0), Due.FULL);
        y.tear(0, 30, 9);
        Due.is(y, y.mend(0, 31, 0), 0, 0);
        Due.is(y.count(6), 8000);
        // What it has itself makes room for what comes.
        y.damage(0, 31, 8, 1);
        Due.is(y, y.mend(0, 31, 0), 0, 0);
        Due.is(y.count(6), 8000);
        y.tear(0, 31, 9 + 4 * 255);
        y.strip(0, TEMPO, 7, 1, 0);
        Due.refused(y, y.mend(0, 31, 0), Due.FULL);
        Due.is(y.told(0, 31, 3), 255);
    }

    private static void promise47() {
        RollPlayer x = new RollPlayer();
        roll(x, HOLES, LEVELS, TEMPO);
        roll(x, HOLES, LEVELS, TEMPO);
        roll(x, HOLES, STOPS, TEMPO);
        Due.is(x, x.equal(0, 1), 1, 0);
        Due.is(x, x.equal(0, 2), 0, 0);
        Due.is(x.equal(0, 0), 1);
        x.punch(1, 2, 3, 1);
        Due.is(x.equal(0, 1), 0);
        x.punch(0, 2, 3, 1);
        Due.is(x.equal(0, 1), 1);
        for (int i = 0; i < 11; i++) {
            x.damage(0, 0, i, 1);
            Due.is(x.equal(0, 1), 0);
            Due.is(x.equal(0, 0), 1);
            x.damage(0, 0, i, 1);
        }
        x.lose(1, 1);
        Due.is(x.equal(0, 1), 0);
        Due.is(x.equal(1, 0), 0);
        x.lose(0, 1);
        Due.is(x.equal(0, 1), 1);
        x.tear(0, 0, 0);
        x.lose(1, 0);
        Due.is(x.equal(0, 1), 0);
        x.lose(0, 0);
        Due.is(x.equal(0, 1), 1);
        x.strip(0, HOLES, 0, 0, 0);
        Due.is(x.equal(0, 1), 0);
        Due.is(x.equal(1, 0), 0);
        Due.refused(x, x.equal(0, 3), Due.BAD);
        Due.refused(x, x.equal(3, 0), Due.BAD);
        Due.refused(x, x.equal(-1, -1), Due.BAD);

        // The list alone tells them apart: both lost.
        RollPlayer y = new RollPlayer();
        int[][] lists = { { 0, 1, 1 }, { 0, 1, 1 }, { 1, 1, 1 }, { 0, 2, 1 }, { 0, 1, 2 } };
        for (int r = 0; r < 5; r++) {
            y.roll();
            y.strip(r, lists[r][0], lists[r][1], 1, lists[r][2]);
            y.lose(r, 0);
            Due.is(y.equal(0, r), r < 2 ? 1 : 0);
        }
        // Bytes behind what it has do not count.
        RollPlayer z = new RollPlayer();
        roll(z, HOLES);
        roll(z, HOLES);
        z.punch(0, 0, 1, 7);
        for (int r = 0; r < 2; r++) {
            z.tear(r, 0, 10);
            z.seal(r, 0);
        }
        Due.is(z.equal(0, 1), 1);
        z.play(0);
        Due.is(z.equal(0, 1), 1);
    }

    private static void promise48() {
        RollPlayer x = new RollPlayer();
        Due.is(x, x.digest(0), 0, Due.BAD);
        x.roll();
        Due.is(x, x.digest(0), 7, 0);
        Due.is(x, x.digest(-1), 0, Due.BAD);
        x.strip(0, TEMPO, 30000, 2, 256);
        x.lose(0, 0);
        int s = ((7 * 31 + 3) * 31 + 30000) * 31 + 256;
        Due.is(x, x.digest(0), s, 0);
        x.strip(0, LEVELS, 5, 2, 6);
        x.punch(0, 1, 1, -2);
        s = ((s * 31 + 1) * 31 + 5) * 31 + 6;
        for (int i = 0; i < 13; i++) s = s * 31 + (byte) x.byteOf(0, 1, i);
        Due.is(x.digest(0), s);
        x.strip(0, HOLES, 5, 2, 6);
        x.tear(0, 2, 2);
        s = (((s * 31) * 31 + 5) * 31 + 6) * 31 * 31;
        Due.is(x.digest(0), s);
        x.play(0);
        Due.is(x, x.digest(0), s, 0);
    }
}
