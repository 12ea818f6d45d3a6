/** Promises 1 to 15: a new object, and strips. */
final class StripsTest {
    public static void main(String[] args) {
        promise1();
        promise2();
        promise3();
        promise3Room();
        promise4();
        promise5();
        promise6();
        promise7();
        promise8();
        promise9();
        promise10();
        promise11();
        promise12();
        promise13And14();
        promise15();
        Due.end("StripsTest");
    }

    /** A roll with one strip of each kind, each of three elements, number 300 and two ticks. */
    private static RollPlayer four() {
        RollPlayer x = new RollPlayer();
        x.roll();
        for (int kind = 0; kind < 4; kind++) x.strip(0, kind, 300, 3, 2);
        return x;
    }

    private static int width(int kind) {
        return kind == 0 ? 1 : kind == 3 ? 4 : 2;
    }

    /** ITS SUM, from what byteOf tells. */
    private static int sumOf(RollPlayer x, int strip) {
        int s = 1;
        for (int i = 0; x.byteOf(0, strip, i) >= 0; i++) {
            if (i < 5 || i > 8) s = s * 31 + (byte) x.byteOf(0, strip, i);
        }
        return s;
    }

    private static void promise1() {
        RollPlayer x = new RollPlayer();
        Due.is(x.status(), 0);
        for (int what = 0; what < 8; what++) Due.is(x.count(what), 0);
        for (int what = 0; what < 9; what++) Due.is(x.at(what), what == 4 ? Due.NONE : 0);
        for (int b = 0; b < 17; b++) Due.is(x.trace(b), 0);
        for (int t = 0; t < 8; t++) {
            Due.is(x.level(t), 0);
            Due.is(x.open(t), Due.NONE);
        }
        for (int c = 0; c < 16; c++) Due.is(x.stop(c), 0);
        Due.refused(x, x.strips(0), Due.BAD);
        Due.refused(x, x.members(0), Due.BAD);
        Due.refused(x, x.play(0), Due.BAD);
        Due.refused(x, x.event(0, 0), Due.NONE);
        Due.refused(x, x.fallen(0, 0), Due.NONE);
        x.instrument(0);
        Due.is(x.frequency(0), Double.doubleToLongBits(440.0));
    }

    private static void promise2() {
        RollPlayer x = new RollPlayer();
        for (int i = 0; i < 20; i++) {
            Due.is(x, x.roll(), i, 0);
            Due.is(x.strips(i), 0);
        }
        Due.refused(x, x.roll(), Due.FULL);
        Due.is(x.count(0), 20);
        x.play(0);
        Due.refused(x, x.roll(), Due.BUSY);
    }

    private static void promise3() {
        RollPlayer x = new RollPlayer();
        Due.refused(x, x.strip(0, 0, 0, 0, 0), Due.BAD);
        x.roll();
        Due.refused(x, x.strip(-1, 0, 0, 0, 0), Due.BAD);
        Due.refused(x, x.strip(0, -1, 0, 0, 0), Due.BAD);
        Due.refused(x, x.strip(0, 4, 0, 0, 0), Due.BAD);
        Due.refused(x, x.strip(0, 0, -1, 0, 0), Due.BAD);
        Due.refused(x, x.strip(0, 0, 30001, 0, 0), Due.BAD);
        Due.refused(x, x.strip(0, 0, 0, 257, 0), Due.BAD);
        Due.refused(x, x.strip(0, 0, 0, 0, -1), Due.BAD);
        Due.refused(x, x.strip(0, 0, 0, 0, 257), Due.BAD);
        Due.refused(x, x.strip(0, 0, 0, -1, 257), Due.BAD);
        Due.refused(x, x.strip(0, 0, 0, -1, 0), Due.SIZE);
        Due.refused(x, x.strip(0, 0, 0, Due.MIN, 0), Due.SIZE);
        Due.is(x.strips(0), 0);
        for (int kind = 0; kind < 4; kind++) {
            Due.is(x, x.strip(0, kind, 30000, 256, 256), kind, 0);
            Due.is(x.read(0, kind), 256);
            Due.is(x.head(0, kind, 0), kind);
            Due.is(x.head(0, kind, 1), 30000);
            Due.is(x.head(0, kind, 2), 256);
            int sum = ((((31 + kind) * 31 + (30000 >> 8)) * 31 + (byte) 30000) * 31 + 1) * 31;
            for (int i = 0; i < 256 * width(kind); i++) sum *= 31;
            Due.is(x.head(0, kind, 3), sum);
            Due.is(x.byteOf(0, kind, 1), 30000 >> 8);
            Due.is(x.byteOf(0, kind, 2), 30000 & 255);
            Due.is(x.byteOf(0, kind, 3), 1);
            Due.is(x.byteOf(0, kind, 4), 0);
            Due.is(x.byteOf(0, kind, 9), 0);
            Due.is(x.byteOf(0, kind, 8 + 256 * width(kind)), 0);
            Due.refused(x, x.byteOf(0, kind, 9 + 256 * width(kind)), Due.TORN);
        }
        Due.is(x.strip(0, 0, 0, 0, 0), 4);
        Due.is(x.read(0, 4), 0);
        x.roll();
        Due.is(x.strip(1, 0, 0, 0, 0), 0);
        x.play(0);
        Due.refused(x, x.strip(0, 0, 0, 1, 0), Due.BUSY);
        Due.refused(x, x.strip(0, 0, 0, -1, 0), Due.BUSY);
        Due.refused(x, x.strip(2, 0, 0, 1, 0), Due.BAD);
    }

    private static void promise3Room() {
        RollPlayer x = new RollPlayer();
        x.roll();
        for (int i = 0; i < 31; i++) x.strip(0, 3, 0, 256, 0);
        Due.is(x.count(6), 7936);
        Due.refused(x, x.strip(0, 0, 0, 65, 0), Due.FULL);
        Due.is(x.strip(0, 0, 0, 64, 0), 31);
        Due.refused(x, x.strip(0, 0, 0, 1, 0), Due.FULL);
        Due.refused(x, x.strip(0, 0, 0, -1, 0), Due.SIZE);
        Due.is(x.strip(0, 0, 0, 0, 0), 32);
        x.lose(0, 31);
        Due.is(x.strip(0, 0, 0, 64, 0), 33);
        Due.is(x.count(6), 8000);

        RollPlayer y = new RollPlayer();
        y.roll();
        y.roll();
        for (int i = 0; i < 400; i++) Due.is(y.strip(i % 2, 0, 0, 0, 0), i / 2);
        Due.refused(y, y.strip(0, 0, 0, 0, 0), Due.FULL);
        Due.refused(y, y.strip(0, 0, 0, -1, 0), Due.FULL);
        Due.is(y.strips(0), 200);
        y.play(0);
        Due.refused(y, y.strip(0, 0, 0, 0, 0), Due.BUSY);
        Due.refused(y, y.strip(0, 4, 0, 0, 0), Due.BAD);
    }

    private static void promise4() {
        RollPlayer x = four();
        int[] bytes = { 0x78, 0x5678, 0x5678, 0x12345678 };
        for (int kind = 0; kind < 4; kind++) {
            Due.is(x, x.punch(0, kind, 2, 0x12345678), 1, 0);
            int w = width(kind);
            int told = 0;
            for (int i = 0; i < w; i++) told = told << 8 | x.byteOf(0, kind, 9 + 2 * w + i);
            Due.is(told, bytes[kind]);
            for (int i = 9; i < 9 + 2 * w; i++) Due.is(x.byteOf(0, kind, i), 0);
            Due.is(x.read(0, kind), 3);
            Due.is(x.head(0, kind, 3), sumOf(x, kind));
            Due.refused(x, x.punch(0, kind, 3, 1), Due.TORN);
            Due.refused(x, x.punch(0, kind, -1, 1), Due.TORN);
            Due.refused(x, x.punch(0, kind, Due.MAX, 1), Due.TORN);
        }
        Due.refused(x, x.punch(0, 4, 0, 1), Due.BAD);
        Due.refused(x, x.punch(1, 0, 0, 1), Due.BAD);
        Due.refused(x, x.punch(0, -1, 0, 1), Due.BAD);

        // One that is not whole is punched, but not sealed.
        long before = x.head(0, 0, 3);
        x.damage(0, 0, 9, 1);
        Due.is(x.punch(0, 0, 1, 5), 1);
        Due.is(x.byteOf(0, 0, 10), 5);
        Due.is(x.head(0, 0, 3), before);
        Due.refused(x, x.read(0, 0), Due.SUM);
        // Punched as it was: its old sum fits again.
        x.punch(0, 0, 0, 0);
        x.punch(0, 0, 1, 0);
        Due.is(x.read(0, 0), 3);

        x.tear(0, 1, 8);
        Due.refused(x, x.punch(0, 1, 0, 1), Due.TORN);
        x.lose(0, 2);
        Due.refused(x, x.punch(0, 2, 9, 1), Due.LOST);
        x.play(0);
        Due.refused(x, x.punch(0, 2, 9, 1), Due.BUSY);
        Due.refused(x, x.punch(0, 0, 0, 1), Due.BUSY);
        Due.refused(x, x.punch(0, 4, 0, 1), Due.BAD);
    }

    private static void promise5() {
        RollPlayer x = four();
        for (int kind = 0; kind < 4; kind++) {
            for (int i = 0; i < 9; i++) x.damage(0, kind, i, 0xa5);
            x.damage(0, kind, 9, 0x80);
            Due.is(x, x.seal(0, kind), 3, 0);
            Due.is(x.head(0, kind, 0), kind);
            Due.is(x.head(0, kind, 1), 300);
            Due.is(x.head(0, kind, 2), 3);
            Due.is(x.head(0, kind, 3), sumOf(x, kind));
            Due.is(x.read(0, kind), 3);
            Due.is(x.byteOf(0, kind, 9), 0x80);
        }
        x.tear(0, 3, 14);
        Due.is(x.seal(0, 3), 1);
        Due.is(x.head(0, 3, 2), 1);
        x.tear(0, 3, 4);
        Due.is(x.seal(0, 3), 0);
        Due.is(x.read(0, 3), 0);
        Due.is(x.head(0, 3, 1), 300);
        Due.refused(x, x.byteOf(0, 3, 9), Due.TORN);
        x.lose(0, 3);
        Due.refused(x, x.seal(0, 3), Due.LOST);
        Due.refused(x, x.seal(0, 4), Due.BAD);
        x.play(0);
        Due.refused(x, x.seal(0, 3), Due.BUSY);
        Due.refused(x, x.seal(0, 4), Due.BAD);
    }

    private static void promise6() {
        RollPlayer x = four();
        Due.is(x, x.lose(0, 1), 1, 0);
        Due.refused(x, x.read(0, 1), Due.LOST);
        Due.is(x, x.lose(0, 1), 0, 0);
        Due.is(x.count(6), 9);
        Due.is(x.told(0, 1, 0), 1);
        Due.is(x.told(0, 1, 1), 300);
        Due.is(x.told(0, 1, 2), 2);
        Due.is(x.told(0, 1, 3), 0);
        Due.is(x.read(0, 0), 3);
        x.tear(0, 0, 0);
        Due.is(x.lose(0, 0), 1);
        Due.refused(x, x.lose(0, 4), Due.BAD);
        Due.refused(x, x.lose(1, 0), Due.BAD);
        x.play(0);
        Due.refused(x, x.lose(0, 2), Due.BUSY);
        Due.refused(x, x.lose(0, 1), Due.BUSY);
        Due.refused(x, x.lose(0, 4), Due.BAD);
        Due.is(x.read(0, 2), 3);
    }

    private static void promise7() {
        for (int kind = 0; kind < 4; kind++) {
            int w = width(kind);
            for (int n = 0; n < 12 + 3 * w; n++) {
                RollPlayer x = four();
                int stay = n < 9 ? 0 : Math.min(3, (n - 9) / w);
                Due.is(x, x.tear(0, kind, n), stay, 0);
                Due.is(x.told(0, kind, 3), stay);
                Due.is(x.count(6), 9 + stay);
                int bytes = Math.min(n, 9) + stay * w;
                if (bytes > 0) Due.isTrue(x.byteOf(0, kind, bytes - 1) >= 0, "a byte is gone that stays");
                Due.refused(x, x.byteOf(0, kind, bytes), Due.TORN);
                Due.is(x.read(0, kind), n < 9 ? Due.TORN : stay < 3 ? Due.LONG : 3);
            }
        }
        RollPlayer x = four();
        Due.is(x.tear(0, 0, Due.MAX), 3);
        Due.refused(x, x.tear(0, 0, -1), Due.BAD);
        Due.refused(x, x.tear(0, 4, 1), Due.BAD);
        x.lose(0, 0);
        Due.refused(x, x.tear(0, 0, 1), Due.LOST);
        Due.refused(x, x.tear(0, 0, -1), Due.BAD);
        x.play(0);
        Due.refused(x, x.tear(0, 0, 1), Due.BUSY);
        Due.refused(x, x.tear(0, 0, -1), Due.BAD);
    }

    private static void promise8() {
        RollPlayer x = four();
        Due.is(x, x.damage(0, 3, 0, 0x81), 0x82, 0);
        Due.is(x.byteOf(0, 3, 0), 0x82);
        Due.is(x.damage(0, 3, 0, 0x12345681), 3);
        Due.is(x.damage(0, 3, 20, -1), 255);
        Due.refused(x, x.damage(0, 3, 21, 1), Due.TORN);
        Due.refused(x, x.damage(0, 3, -1, 1), Due.TORN);
        Due.refused(x, x.damage(0, 3, Due.MIN, 1), Due.TORN);
        x.tear(0, 3, 5);
        Due.refused(x, x.damage(0, 3, 5, 1), Due.TORN);
        Due.is(x.damage(0, 3, 4, 1), 2);
        x.lose(0, 3);
        Due.refused(x, x.damage(0, 3, 21, 1), Due.LOST);
        Due.refused(x, x.damage(0, 4, 0, 1), Due.BAD);
        x.play(0);
        Due.refused(x, x.damage(0, 3, 0, 1), Due.BUSY);
        Due.refused(x, x.damage(0, 0, 0, 1), Due.BUSY);
        Due.refused(x, x.damage(0, 4, 0, 1), Due.BAD);
        Due.is(x.byteOf(0, 0, 0), 0);
    }

    private static void promise9() {
        RollPlayer x = four();
        x.punch(0, 1, 0, 0xfe01);
        Due.is(x, x.byteOf(0, 1, 9), 0xfe, 0);
        Due.is(x.byteOf(0, 1, 10), 1);
        Due.is(x.byteOf(0, 1, 0), 1);
        Due.refused(x, x.byteOf(0, 1, 15), Due.TORN);
        Due.refused(x, x.byteOf(0, 1, Due.MAX), Due.TORN);
        Due.refused(x, x.byteOf(0, 1, Due.MIN), Due.TORN);
        Due.refused(x, x.byteOf(0, 4, 0), Due.BAD);
        Due.refused(x, x.byteOf(-1, 0, 0), Due.BAD);
        x.lose(0, 1);
        Due.refused(x, x.byteOf(0, 1, 99), Due.LOST);
        x.play(0);
        Due.is(x.byteOf(0, 2, 0), 2);
    }

    private static void promise10() {
        RollPlayer x = four();
        int[] ends = { 0, 1, 3, 5, 9 };
        for (int what = 0; what < 4; what++) {
            RollPlayer y = four();
            for (int i = ends[what]; i < ends[what + 1]; i++) y.damage(0, 2, i, y.byteOf(0, 2, i) ^ 0xff);
            Due.is(y, y.head(0, 2, what), -1, 0);
            y.damage(0, 2, ends[what], 0x80);
            Due.is(y.head(0, 2, what), (1L << (8 * (ends[what + 1] - ends[what]) - 1)) - 1);
            y.tear(0, 2, ends[what + 1]);
            Due.is(y, y.head(0, 2, what), (1L << (8 * (ends[what + 1] - ends[what]) - 1)) - 1, 0);
            y.tear(0, 2, ends[what + 1] - 1);
            Due.is(y, y.head(0, 2, what), 0, 2);
        }
        Due.is(x, x.head(0, 2, 4), 0, Due.BAD);
        Due.is(x, x.head(0, 2, -1), 0, Due.BAD);
        Due.is(x, x.head(0, 4, 0), 0, Due.BAD);
        x.lose(0, 2);
        Due.is(x, x.head(0, 2, 0), 0, 1);
        Due.is(x, x.head(0, 2, 4), 0, Due.BAD);
        x.play(0);
        Due.is(x, x.head(0, 1, 1), 300, 0);
    }

    private static void promise11() {
        RollPlayer x = four();
        for (int kind = 0; kind < 4; kind++) {
            for (int k = 0; k < 3; k++) x.punch(0, kind, k, -1 - 7 * k);
            for (int i = 0; i < 5; i++) x.damage(0, kind, i, 0x90 + i);
            long sum = sumOf(x, kind);
            Due.is(x, x.sum(0, kind), sum, 0);
            for (int i = 5; i < 9; i++) x.damage(0, kind, i, 0xff);
            Due.is(x.sum(0, kind), sum);
        }
        // The five bytes of its head alone: kind 3, number 300, length 3.
        RollPlayer y = four();
        y.tear(0, 3, 5);
        int s = ((((31 + 3) * 31 + 1) * 31 + 44) * 31) * 31 + 3;
        Due.is(y, y.sum(0, 3), s, 0);
        y.tear(0, 3, 4);
        Due.is(y, y.sum(0, 3), 0, 2);
        y.lose(0, 3);
        Due.is(y, y.sum(0, 3), 0, 1);
        Due.is(y, y.sum(0, 4), 0, Due.BAD);
        y.play(0);
        Due.is(y.sum(0, 0), y.head(0, 0, 3));
    }

    private static void promise12() {
        RollPlayer x = four();
        for (int kind = 0; kind < 4; kind++) Due.is(x, x.read(0, kind), 3, 0);
        x.lose(0, 3);
        Due.refused(x, x.read(0, 3), Due.LOST);
        Due.refused(x, x.read(0, 4), Due.BAD);
        Due.refused(x, x.read(1, 0), Due.BAD);

        // The kind is told ahead of a length, that ahead of the sum; each is mended in turn.
        x.damage(0, 1, 9, 1);
        Due.refused(x, x.read(0, 1), Due.SUM);
        x.damage(0, 1, 4, 7);
        Due.refused(x, x.read(0, 1), Due.LONG);
        x.damage(0, 1, 4, 6);
        Due.refused(x, x.read(0, 1), Due.SHORT);
        x.damage(0, 1, 3, 0x80);
        Due.refused(x, x.read(0, 1), Due.SIZE);
        x.damage(0, 1, 0, 3);
        Due.refused(x, x.read(0, 1), Due.KIND);
        x.damage(0, 1, 0, 0x81 ^ 2);
        Due.refused(x, x.read(0, 1), Due.KIND);
        x.tear(0, 1, 8);
        Due.refused(x, x.read(0, 1), Due.TORN);

        // Another number alone is found by the sum; with a sum that fits it is whole.
        x.damage(0, 2, 2, 1);
        Due.refused(x, x.read(0, 2), Due.SUM);
        int sum = (int) x.sum(0, 2);
        for (int i = 0; i < 4; i++) {
            x.damage(0, 2, 5 + i, x.byteOf(0, 2, 5 + i) ^ (sum >> (24 - 8 * i)));
        }
        Due.is(x.read(0, 2), 3);
        Due.is(x.head(0, 2, 1), 301);
        Due.is(x.told(0, 2, 1), 300);
        x.punch(0, 2, 0, 1);
        Due.is(x.head(0, 2, 1), 300);
        x.play(0);
        Due.is(x.read(0, 2), 3);
    }

    private static void promise13And14() {
        RollPlayer x = new RollPlayer();
        x.roll();
        Due.is(x, x.whole(0), 0, 0);
        Due.refused(x, x.finding(0, 0), Due.NONE);
        for (int i = 0; i < 6; i++) x.strip(0, i % 4, i, i, i);
        Due.is(x.whole(0), 6);
        x.lose(0, 1);
        x.damage(0, 3, 8, 1);
        x.tear(0, 5, 3);
        Due.is(x, x.whole(0), 3, 0);
        Due.is(x, x.finding(0, 0), 1, 0);
        Due.is(x.finding(0, 1), 3);
        Due.is(x.finding(0, 2), 5);
        Due.refused(x, x.finding(0, 3), Due.NONE);
        Due.refused(x, x.finding(0, Due.MAX), Due.NONE);
        Due.refused(x, x.finding(0, -1), Due.BAD);
        Due.refused(x, x.finding(1, 0), Due.BAD);
        Due.refused(x, x.whole(1), Due.BAD);
        Due.refused(x, x.whole(-1), Due.BAD);
        x.play(0);
        Due.is(x.whole(0), 3);
        Due.is(x.finding(0, 1), 3);
    }

    private static void promise15() {
        RollPlayer x = new RollPlayer();
        x.roll();
        x.strip(0, 2, 30000, 7, 256);
        int[] list = { 2, 30000, 256, 7 };
        for (int i = 0; i < 9; i++) x.damage(0, 0, i, 0x5a);
        for (int what = 0; what < 4; what++) Due.is(x, x.told(0, 0, what), list[what], 0);
        x.tear(0, 0, 12);
        Due.is(x.told(0, 0, 3), 1);
        x.tear(0, 0, 2);
        Due.is(x.told(0, 0, 3), 0);
        x.lose(0, 0);
        Due.is(x, x.told(0, 0, 3), 0, 0);
        Due.is(x.told(0, 0, 1), 30000);
        Due.refused(x, x.told(0, 0, 4), Due.BAD);
        Due.refused(x, x.told(0, 0, -1), Due.BAD);
        Due.refused(x, x.told(0, 1, 0), Due.BAD);
        Due.refused(x, x.told(1, 0, 0), Due.BAD);
        x.play(0);
        Due.is(x.told(0, 0, 2), 256);
    }
}
