/** Section 2 and promises 1 to 15: each sentence that names a boundary case, with a test of its own. */
final class StripsBoundsTest extends Bounds {
    private static final int HOLES = 0, LEVELS = 1, STOPS = 2, TEMPO = 3;
    private static final int[] HEAD = { 0, 1, 3, 5, 9 };

    public static void main(String[] args) {
        rollsAndStrips();
        theList();
        headWithSign();
        rows();
        elementsInAll();
        itsSum();
        sealed();
        toRead();
        toReadInOrder();
        promise1();
        promise2();
        promise3();
        promise3Order();
        promise4();
        promise4Sealed();
        promise5();
        promise6();
        promise7();
        promise8();
        promise9();
        promise10();
        promise11();
        promise12();
        promise13();
        promise14();
        promise15();
        Due.end("StripsBoundsTest");
    }

    // ---- section 2

    private static void rollsAndStrips() {
        says("ROLLS (20 at most) are rows of STRIPS");
        let(19, () -> rolls(19), x -> x.roll());
        refused(FULL, () -> rolls(20), x -> x.roll());
        let(19, () -> rolls(19), x -> x.cut(0, 0));
        refused(FULL, () -> rolls(20), x -> x.cut(0, 0));

        says("STRIPS (400 at most in all ROLLS together), both numbered from 0 on");
        Player x = strips(399);
        is(x, x.strips(0) + x.strips(1), 399);
        let(200, () -> strips(399), y -> y.strip(0, 0, 0, 0, 0));
        let(199, () -> strips(399), y -> y.strip(1, 0, 0, 0, 0));
        refused(FULL, () -> strips(400), y -> y.strip(0, 0, 0, 0, 0));
        refused(FULL, () -> strips(400), y -> y.strip(1, 0, 0, 0, 0));
        let(201, () -> strips(399), y -> y.repeat(0, 0, 1));
        refused(FULL, () -> strips(399), y -> y.repeat(0, 0, 2));
        refused(FULL, () -> strips(400), y -> y.repeat(0, 0, 1));
    }

    private static void theList() {
        says("THE LIST of a ROLL tells of each STRIP its KIND (0 HOLES, 1 LEVELS, 2 STOPS, 3 TEMPO)");
        within(0, 3, () -> rolls(1), (x, v) -> x.strip(0, v, 0, 1, 0));
        says("its NUMBER (0 .. 30000)");
        within(0, 30000, () -> rolls(1), (x, v) -> x.strip(0, 0, v, 1, 0));
        says("its TICKS (0 .. 256), for good");
        within(0, 256, () -> rolls(1), (x, v) -> x.strip(0, 0, 0, 1, v));
        for (int kind = 0; kind < 4; kind++) {
            Player x = rolls(2);
            x.strip(0, kind, 30000, 4, 256);
            x.strip(1, kind, 0, 2, 0);
            for (int i = 0; i < 9; i++) x.damage(0, 0, i, 255);
            list(x, kind, 30000, 256, 4);
            x.move(1, 0, 1, 0, 0);
            list(x, kind, 30000, 256, 2);
            x.tear(0, 0, 0);
            list(x, kind, 30000, 256, 0);
            x.seal(0, 0);
            list(x, kind, 30000, 256, 0);
            x.lose(0, 0);
            list(x, kind, 30000, 256, 0);
        }
    }

    private static void list(Player x, int... due) {
        for (int what = 0; what < 4; what++) is(x, x.told(0, 0, what), due[what]);
    }

    private static void headWithSign() {
        says("It is LOST, or has BYTES: a HEAD of 9: kind (byte 0), number (1, 2), length (3, 4), sum (5 to 8), the highest byte first, all with sign");
        for (int what = 0; what < 4; what++) {
            int bits = 8 * (HEAD[what + 1] - HEAD[what]);
            long least = -(1L << (bits - 1));
            for (long v : new long[] { least, least + 1, -1, 0, 1, 127, -least - 1 }) {
                Player x = of(LEVELS, 3);
                setHead(x, what, (int) v);
                is(x, x.head(0, 0, what), v, 0);
                is(x, x.byteOf(0, 0, HEAD[what]), (v >> (bits - 8)) & 255);
                is(x, x.byteOf(0, 0, HEAD[what + 1] - 1), v & 255);
            }
        }
    }

    private static void rows() {
        says("then its ROW of 0 to 256 ELEMENTS of its KIND: bytes, shorts, chars (no sign), ints, of each its bytes, the highest first");
        for (int kind = 0; kind < 4; kind++) {
            for (int n : new int[] { 0, 1, 255, 256 }) {
                Player x = of(kind, n);
                is(x, x.told(0, 0, 3), n);
                is(x, x.byteOf(0, 0, 8 + n * width(kind)) < 0 ? 1 : 0, 0);
                is(x, x.byteOf(0, 0, 9 + n * width(kind)), TORN);
                is(x, x.read(0, 0), n);
            }
            int k = kind;
            refused(BAD, () -> rolls(1), x -> x.strip(0, k, 0, 257, 0));
            Player x = of(kind, 256);
            x.punch(0, 0, 255, 0x81828384);
            for (int i = 0; i < width(kind); i++) {
                is(x, x.byteOf(0, 0, 9 + 256 * width(kind) - 1 - i), 0x84 - i);
            }
            is(x, x.byteOf(0, 0, 9 + 255 * width(kind) - 1), 0);
            is(x, x.read(0, 0), 256);
        }
    }

    private static void elementsInAll() {
        says("All ROWS together have 8000 ELEMENTS at most.");
        Player full = elements(8000);
        is(full, full.count(6), 8000);
        let(32, () -> elements(7999), x -> x.strip(0, 3, 0, 1, 0));
        refused(FULL, () -> elements(7999), x -> x.strip(0, 3, 0, 2, 0));
        refused(FULL, () -> elements(8000), x -> x.strip(0, 0, 0, 1, 0));
        refused(FULL, () -> elements(8000), x -> x.strip(0, 0, 0, 256, 0));
        let(32, () -> elements(8000), x -> x.strip(0, 3, 0, 0, 0));
        // What is lost or torn makes room, to the last one.
        let(32, and(() -> elements(8000), x -> x.lose(0, 0)), x -> x.strip(0, 0, 0, 256, 0));
        let(32, and(() -> elements(8000), x -> x.tear(0, 0, 9 + 255)), x -> x.strip(0, 0, 0, 1, 0));
        refused(FULL, and(() -> elements(8000), x -> x.tear(0, 0, 9 + 255)), x -> x.strip(0, 0, 0, 2, 0));
    }

    private static void itsSum() {
        says("ITS SUM: s is 1; for each byte b (with sign) of the HEAD but the sum's, then of the ROW: s is s * 31 + b; 32 bits.");
        for (int kind = 0; kind < 4; kind++) {
            for (int v : new int[] { 0, 0x7f7f7f7f, 0x80808080, -1 }) {
                Player x = of(kind, 256);
                x.punch(0, 0, 0, v);
                for (int n = 1; n < 256; n *= 2) x.copy(0, 0, 0, n, 0, 0, n);
                java.math.BigInteger s = java.math.BigInteger.ONE;
                int[] head = { kind, 5 >> 8, 5, 1, 0 };
                for (int b : head) s = s.multiply(java.math.BigInteger.valueOf(31)).add(java.math.BigInteger.valueOf(b));
                for (int i = 0; i < 256 * width(kind); i++) {
                    s = s.multiply(java.math.BigInteger.valueOf(31)).add(java.math.BigInteger.valueOf((byte) v));
                }
                is(x, x.sum(0, 0), s.intValue(), 0);
                x.seal(0, 0);
                is(x, x.head(0, 0, 3), s.intValue(), 0);
            }
        }
        // The first that goes beyond 32 bits with no row: 1 and five bytes.
        Player x = of(HOLES, 0);
        for (int i = 0; i < 5; i++) setByte(x, i, 0x7f);
        is(x, x.sum(0, 0), (int) (31L * 31 * 31 * 31 * 31 + 127L * (1 + 31 + 961 + 29791 + 923521)));
        for (int i = 0; i < 5; i++) setByte(x, i, 0x80);
        is(x, x.sum(0, 0), (int) (31L * 31 * 31 * 31 * 31 - 128L * (1 + 31 + 961 + 29791 + 923521)));
        // The sum's own bytes do not count.
        long sum = x.sum(0, 0);
        for (int i = 5; i < 9; i++) setByte(x, i, 0x55);
        is(x, x.sum(0, 0), sum);
    }

    private static void sealed() {
        says("SEALED it is when its HEAD is anew: its KIND, its NUMBER, how many ELEMENTS it has, ITS SUM.");
        for (int kind = 0; kind < 4; kind++) {
            for (int bytes : new int[] { 0, 1, 8, 9, 9 + width(kind), 9 + 256 * width(kind) }) {
                Player x = rolls(1);
                x.strip(0, kind, 30000, 256, 0);
                for (int i = 0; i < 9; i++) x.damage(0, 0, i, 0xff);
                x.tear(0, 0, bytes);
                int n = Math.max(0, bytes - 9) / width(kind);
                is(x, x.seal(0, 0), n, 0);
                is(x, x.head(0, 0, 0), kind);
                is(x, x.head(0, 0, 1), 30000);
                is(x, x.head(0, 0, 2), n);
                is(x, x.head(0, 0, 3), x.sum(0, 0));
                is(x, x.read(0, 0), n);
            }
        }
    }

    private static void toRead() {
        says("TO READ a STRIP: LOST: it is.");
        refused(LOST, and(() -> of(TEMPO, 3), x -> x.lose(0, 0)), x -> x.read(0, 0));
        says("TORN: its HEAD has not nine bytes.");
        for (int n = 0; n < 9; n++) {
            int bytes = n;
            refused(TORN, and(() -> of(TEMPO, 0), x -> x.tear(0, 0, bytes)), x -> x.read(0, 0));
        }
        let(0, and(() -> of(TEMPO, 0), x -> x.tear(0, 0, 9)), x -> x.read(0, 0));
        says("KIND: its HEAD tells another kind than its own.");
        for (int kind = 0; kind < 4; kind++) {
            for (int v : new int[] { -128, -1, 0, 1, 2, 3, 4, 127 }) {
                int k = kind;
                if (v != kind) refused(KIND, and(() -> of(k, 3), x -> setHead(x, 0, v)), x -> x.read(0, 0));
            }
        }
        says("LONG: a length above how many ELEMENTS it has.");
        for (int n : new int[] { 0, 1, 256 }) {
            refused(LONG, and(() -> of(STOPS, n), x -> setHead(x, 2, n + 1)), x -> x.read(0, 0));
            refused(LONG, and(() -> of(STOPS, n), x -> setHead(x, 2, 32767)), x -> x.read(0, 0));
            let(n, and(() -> of(STOPS, n), x -> setHead(x, 2, n)), x -> x.read(0, 0));
        }
        says("Then a row of that length is made: SIZE: it is below 0.");
        for (int n : new int[] { 0, 1, 256 }) {
            refused(SIZE, and(() -> of(STOPS, n), x -> setHead(x, 2, -1)), x -> x.read(0, 0));
            refused(SIZE, and(() -> of(STOPS, n), x -> setHead(x, 2, -32768)), x -> x.read(0, 0));
        }
        says("SHORT: a length below how many it has. The ELEMENTS are copied there.");
        for (int n : new int[] { 1, 2, 256 }) {
            refused(SHORT, and(() -> of(STOPS, n), x -> setHead(x, 2, n - 1)), x -> x.read(0, 0));
            refused(SHORT, and(() -> of(STOPS, n), x -> setHead(x, 2, 0)), x -> x.read(0, 0));
        }
        says("SUM: the sum told is not ITS SUM. Otherwise it is WHOLE.");
        for (int i : new int[] { 1, 2, 5, 6, 7, 8, 9, 14 }) {
            for (int mask : new int[] { 1, 0x80 }) {
                refused(SUM, and(() -> of(LEVELS, 3), x -> x.damage(0, 0, i, mask)), x -> x.read(0, 0));
                let(3, and(and(() -> of(LEVELS, 3), x -> x.damage(0, 0, i, mask)), x -> x.damage(0, 0, i, mask)),
                    x -> x.read(0, 0));
            }
        }
        // Any number in its head, if the sum is of it.
        for (int v : new int[] { -32768, -1, 32767 }) {
            Player x = of(LEVELS, 3);
            setHead(x, 1, v);
            is(x, x.read(0, 0), SUM, 9);
            setHead(x, 3, (int) x.sum(0, 0));
            is(x, x.read(0, 0), 3, 0);
        }
    }

    /** The first that is met, where all that come later are there, too. */
    private static void toReadInOrder() {
        says("the first that is met");
        Make sum = and(() -> of(LEVELS, 3), x -> x.damage(0, 0, 8, 1));
        refused(SUM, sum, x -> x.read(0, 0));
        refused(SHORT, and(sum, x -> setHead(x, 2, 2)), x -> x.read(0, 0));
        refused(SIZE, and(sum, x -> setHead(x, 2, -3)), x -> x.read(0, 0));
        refused(LONG, and(sum, x -> setHead(x, 2, 4)), x -> x.read(0, 0));
        for (int length : new int[] { 2, -3, 4 }) {
            Make kind = and(and(sum, x -> setHead(x, 2, length)), x -> setHead(x, 0, 3));
            refused(KIND, kind, x -> x.read(0, 0));
            refused(TORN, and(kind, x -> x.tear(0, 0, 8)), x -> x.read(0, 0));
            refused(LOST, and(and(kind, x -> x.tear(0, 0, 8)), x -> x.lose(0, 0)), x -> x.read(0, 0));
        }
    }

    // ---- promises 1 to 15

    private static void promise1() {
        says("Nothing is there; BASE is 440.0.");
        refused(BAD, Player::new, x -> x.strip(0, 0, 0, 0, 0));
        refused(BAD, Player::new, x -> x.read(0, 0));
        refused(BAD, Player::new, x -> x.whole(0));
        refused(BAD, Player::new, x -> x.mute(0));
        refused(BAD, Player::new, x -> x.couple(0, 0));
        refused(BAD, Player::new, x -> x.place(0, 0, -1));
        refused(BAD, Player::new, x -> x.wire(0, 0, 0));
        refused(BAD, Player::new, x -> x.play(0));
        refused(NONE, Player::new, x -> x.tick(1));
        refused(NONE, Player::new, x -> x.halt());
        refused(NONE, Player::new, x -> x.back(0));
        refused(NONE, Player::new, x -> x.sounding(0, 0));
        refused(NONE, Player::new, x -> x.event(0, 0));
        refused(NONE, Player::new, x -> x.fallen(0, 0));
        refused(NONE, Player::new, x -> x.at(4));
        refusedLong(BAD, Player::new, x -> x.digest(0));
        Player x = new Player();
        is(x, 0, 0, 0);
        for (int what = 0; what < 8; what++) is(x, x.count(what), 0, 0);
        for (int b = 0; b <= 16; b++) is(x, x.trace(b), 0, 0);
        x.instrument(0);
        is(x, x.frequency(0), Double.doubleToLongBits(440.0), 0);
    }

    private static void promise2() {
        says("A ROLL without STRIPS: its number. BUSY, FULL.");
        Player x = let(0, Player::new, y -> y.roll());
        is(x, x.strips(0), 0);
        is(x, x.digest(0), 7);
        let(19, () -> rolls(19), y -> y.roll());
        refused(FULL, () -> rolls(20), y -> y.roll());
        refused(BUSY, playing(() -> rolls(1)), y -> y.roll());
        refused(BUSY, playing(() -> rolls(20)), y -> y.roll());
    }

    private static void promise3() {
        says("A STRIP comes behind a ROLL's: n ELEMENTS of 0, SEALED: its place.");
        for (int n : new int[] { 0, 1, 256 }) {
            Player x = let(4, Bounds::four, y -> y.strip(0, 2, 30000, n, 256));
            is(x, x.read(0, 4), n);
            is(x, x.head(0, 4, 1), 30000);
            is(x, x.head(0, 4, 2), n);
            is(x, x.byteOf(0, 4, 9), n == 0 ? TORN : 0);
            is(x, x.byteOf(0, 4, 8 + 2 * n), n == 0 ? x.head(0, 4, 3) & 255 : 0);
            is(x, x.byteOf(0, 4, 9 + 2 * n), TORN);
        }
        says("BAD: kind, number, ticks, n above 256; BUSY; FULL; SIZE.");
        within(0, 1, () -> rolls(2), (x, v) -> x.strip(v, 0, 0, 1, 1));
        within(0, 3, () -> rolls(1), (x, v) -> x.strip(0, v, 0, 256, 256));
        within(0, 30000, () -> rolls(1), (x, v) -> x.strip(0, 3, v, 256, 256));
        within(0, 256, () -> rolls(1), (x, v) -> x.strip(0, 3, 30000, 256, v));
        let(0, () -> rolls(1), x -> x.strip(0, 0, 0, 256, 0));
        refused(BAD, () -> rolls(1), x -> x.strip(0, 0, 0, 257, 0));
        refused(BAD, () -> rolls(1), x -> x.strip(0, 0, 0, MAX, 0));
        let(0, () -> rolls(1), x -> x.strip(0, 0, 0, 0, 0));
        refused(SIZE, () -> rolls(1), x -> x.strip(0, 0, 0, -1, 0));
        refused(SIZE, () -> rolls(1), x -> x.strip(0, 0, 0, MIN, 0));
    }

    private static void promise3Order() {
        says("BAD: kind, number, ticks, n above 256; BUSY; FULL; SIZE.");
        Make full = () -> strips(400);
        for (int n : new int[] { 0, -1, MIN }) {
            refused(BAD, playing(full), x -> x.strip(0, 4, 0, n, 0));
            refused(BAD, playing(full), x -> x.strip(2, 0, 0, n, 0));
            refused(BUSY, playing(full), x -> x.strip(0, 0, 0, n, 0));
            refused(FULL, full, x -> x.strip(0, 0, 0, n, 0));
        }
        refused(BAD, full, x -> x.strip(0, 0, 30001, -1, 0));
        refused(BUSY, playing(() -> rolls(1)), x -> x.strip(0, 0, 0, -1, 0));
        // Less than nothing is not too much, even where all is full.
        refused(SIZE, () -> elements(8000), x -> x.strip(0, 0, 0, -1, 0));
        refused(SIZE, () -> elements(8000), x -> x.strip(0, 0, 0, MIN, 0));
        refused(BAD, () -> elements(8000), x -> x.strip(0, 0, 0, 257, 0));
    }

    private static void promise4() {
        says("ELEMENT k becomes the lowest bits of v: 1");
        int[] values = { 0, 1, -1, 127, 128, -128, -129, 255, 256, 32767, 32768, 65535, 65536, -65536, MIN, MAX };
        for (int kind = 0; kind < 4; kind++) {
            Player x = of(kind, 3);
            for (int v : values) {
                x.punch(0, 0, 1, v);
                int w = width(kind);
                for (int i = 0; i < w; i++) is(x, x.byteOf(0, 0, 9 + w + i), (v >> (8 * (w - 1 - i))) & 255);
                is(x, x.byteOf(0, 0, 9 + w - 1) + x.byteOf(0, 0, 9 + 2 * w), 0);
            }
        }
        says("1; it is SEALED, if it was WHOLE. BAD, BUSY; LOST, TORN.");
        for (int kind = 0; kind < 4; kind++) {
            int k = kind;
            within(TORN, 0, 255, () -> of(k, 256), (x, v) -> x.punch(0, 0, v, -1));
            within(TORN, 0, 0, () -> of(k, 1), (x, v) -> x.punch(0, 0, v, -1));
            refused(TORN, () -> of(k, 0), x -> x.punch(0, 0, 0, 1));
            refused(TORN, and(() -> of(k, 3), x -> x.tear(0, 0, 8)), x -> x.punch(0, 0, 0, 1));
            refused(TORN, and(() -> of(k, 3), x -> x.tear(0, 0, 0)), x -> x.punch(0, 0, 0, 1));
            let(1, and(() -> of(k, 3), x -> x.tear(0, 0, 9 + 2 * width(k))), x -> x.punch(0, 0, 1, 1));
            refused(TORN, and(() -> of(k, 3), x -> x.tear(0, 0, 9 + 2 * width(k))), x -> x.punch(0, 0, 2, 1));
        }
        within(0, 0, Bounds::four, (x, v) -> x.punch(v, 0, 0, 1));
        within(0, 3, Bounds::four, (x, v) -> x.punch(0, v, 0, 1));
        Make lost = and(() -> of(HOLES, 3), x -> x.lose(0, 0));
        refused(LOST, lost, x -> x.punch(0, 0, 0, 1));
        refused(LOST, lost, x -> x.punch(0, 0, 3, 1));
        refused(LOST, lost, x -> x.punch(0, 0, MIN, 1));
        refused(BUSY, playing(lost), x -> x.punch(0, 0, 3, 1));
        refused(BUSY, playing(() -> of(HOLES, 3)), x -> x.punch(0, 0, 0, 1));
        refused(BUSY, playing(() -> of(HOLES, 3)), x -> x.punch(0, 0, 3, 1));
        refused(BAD, playing(lost), x -> x.punch(0, 1, 3, 1));
    }

    private static void promise4Sealed() {
        says("it is SEALED, if it was WHOLE.");
        Player x = of(LEVELS, 3);
        x.punch(0, 0, 2, -2);
        is(x, x.read(0, 0), 3);
        is(x, x.head(0, 0, 3), x.sum(0, 0));
        // Of each finding: what it tells stays, but the element has come.
        int[][] heads = { { 0, 2 }, { 2, 4 }, { 2, 2 }, { 2, -1 }, { 3, 77 } };
        for (int[] h : heads) {
            Player y = of(LEVELS, 3);
            setHead(y, h[0], h[1]);
            int finding = y.read(0, 0);
            long[] before = { y.head(0, 0, 0), y.head(0, 0, 1), y.head(0, 0, 2), y.head(0, 0, 3) };
            is(y, y.punch(0, 0, 2, -2), 1, 0);
            is(y, y.byteOf(0, 0, 14), 254);
            is(y, y.read(0, 0), finding);
            for (int what = 0; what < 4; what++) is(y, y.head(0, 0, what), before[what]);
        }
    }

    private static void promise5() {
        says("It is SEALED: how many ELEMENTS it has. BAD, BUSY; LOST.");
        for (int kind = 0; kind < 4; kind++) {
            int k = kind;
            for (int n : new int[] { 0, 1, 256 }) let(n, () -> of(k, n), x -> x.seal(0, 0));
            let(0, and(() -> of(k, 3), x -> x.tear(0, 0, 0)), x -> x.seal(0, 0));
            let(0, and(() -> of(k, 3), x -> x.tear(0, 0, 9 + width(k) - 1)), x -> x.seal(0, 0));
            let(1, and(() -> of(k, 3), x -> x.tear(0, 0, 9 + width(k))), x -> x.seal(0, 0));
        }
        within(0, 0, Bounds::four, (x, v) -> x.seal(v, 0));
        within(0, 3, Bounds::four, (x, v) -> x.seal(0, v));
        Make lost = and(Bounds::four, x -> x.lose(0, 3));
        refused(LOST, lost, x -> x.seal(0, 3));
        refused(BUSY, playing(lost), x -> x.seal(0, 3));
        refused(BUSY, playing(and(Bounds::four, x -> x.damage(0, 0, 8, 1))), x -> x.seal(0, 0));
        refused(BAD, playing(lost), x -> x.seal(0, 4));
    }

    private static void promise6() {
        says("It is LOST: 1; 0: it was. BAD, BUSY.");
        Player x = let(1, Bounds::four, y -> y.lose(0, 3));
        is(x, x.lose(0, 3), 0, 0);
        is(x, x.lose(0, 3), 0, 0);
        is(x, x.count(6), 9);
        let(1, and(Bounds::four, y -> y.tear(0, 0, 0)), y -> y.lose(0, 0));
        within(0, 0, Bounds::four, (y, v) -> y.lose(v, 0));
        within(0, 3, Bounds::four, (y, v) -> y.lose(0, v));
        Make lost = and(Bounds::four, y -> y.lose(0, 3));
        refused(BUSY, playing(lost), y -> y.lose(0, 3));
        refused(BUSY, playing(lost), y -> y.lose(0, 0));
        refused(BAD, playing(lost), y -> y.lose(0, 4));
    }

    private static void promise7() {
        says("Of its BYTES the first n stay (of an ELEMENT all or none; all, if it has fewer): how many ELEMENTS.");
        for (int kind = 0; kind < 4; kind++) {
            int w = width(kind);
            for (int n = 0; n <= 9 + 2 * w + 1; n++) {
                Player x = of(kind, 2);
                int stay = n < 9 ? 0 : Math.min(2, (n - 9) / w);
                is(x, x.tear(0, 0, n), stay, 0);
                int bytes = n < 9 ? n : 9 + stay * w;
                is(x, bytes == 0 || x.byteOf(0, 0, bytes - 1) >= 0 ? 1 : 0, 1);
                is(x, x.byteOf(0, 0, bytes), TORN);
                is(x, x.count(6), stay);
            }
            int k = kind;
            let(256, () -> of(k, 256), x -> x.tear(0, 0, 9 + 256 * w));
            let(256, () -> of(k, 256), x -> x.tear(0, 0, MAX));
            let(255, () -> of(k, 256), x -> x.tear(0, 0, 9 + 256 * w - 1));
        }
        // Torn once, more does not come back.
        Player x = of(HOLES, 2);
        x.tear(0, 0, 4);
        is(x, x.tear(0, 0, 5), 0, 0);
        is(x, x.byteOf(0, 0, 4), TORN);
        says("BAD: also n below 0; BUSY; LOST.");
        Make lost = and(Bounds::four, y -> y.lose(0, 3));
        within(0, 0, Bounds::four, (y, v) -> y.tear(v, 0, 5));
        within(0, 3, Bounds::four, (y, v) -> y.tear(0, v, 5));
        refused(BAD, Bounds::four, y -> y.tear(0, 0, -1));
        refused(BAD, Bounds::four, y -> y.tear(0, 0, MIN));
        refused(BAD, lost, y -> y.tear(0, 3, -1));
        refused(LOST, lost, y -> y.tear(0, 3, 0));
        refused(LOST, lost, y -> y.tear(0, 3, MAX));
        refused(BAD, playing(lost), y -> y.tear(0, 3, -1));
        refused(BUSY, playing(lost), y -> y.tear(0, 3, 0));
        refused(BUSY, playing(lost), y -> y.tear(0, 0, 0));
    }

    private static void promise8() {
        says("BYTE i xor mask, of that the lowest 8 bits: the BYTE then (0 .. 255).");
        int[][] masks = { { 0, 3 }, { 3, 0 }, { 0x80, 0x83 }, { 255, 252 }, { 256, 3 }, { -1, 252 }, { -256, 3 },
            { MIN, 3 }, { MAX, 252 }, { 0x7fffff80, 0x83 } };
        for (int[] m : masks) {
            Player x = let(m[1], () -> of(TEMPO, 3), y -> y.damage(0, 0, 0, m[0]));
            is(x, x.byteOf(0, 0, 0), m[1]);
            is(x, x.byteOf(0, 0, 1), 0);
        }
        says("the BYTE then (0 .. 255). BAD, BUSY; LOST, TORN.");
        for (int kind = 0; kind < 4; kind++) {
            int k = kind;
            within(TORN, 0, 8 + 3 * width(k), () -> of(k, 3), (x, v) -> x.damage(0, 0, v, 1));
            within(TORN, 0, 8, () -> of(k, 0), (x, v) -> x.damage(0, 0, v, 1));
            within(TORN, 0, 0, and(() -> of(k, 3), x -> x.tear(0, 0, 1)), (x, v) -> x.damage(0, 0, v, 1));
        }
        refused(TORN, and(() -> of(HOLES, 3), x -> x.tear(0, 0, 0)), x -> x.damage(0, 0, 0, 1));
        within(0, 0, Bounds::four, (x, v) -> x.damage(v, 0, 0, 1));
        within(0, 3, Bounds::four, (x, v) -> x.damage(0, v, 0, 1));
        Make lost = and(Bounds::four, y -> y.lose(0, 3));
        refused(LOST, lost, x -> x.damage(0, 3, 0, 1));
        refused(LOST, lost, x -> x.damage(0, 3, -1, 1));
        refused(BUSY, playing(lost), x -> x.damage(0, 3, -1, 1));
        refused(BUSY, playing(lost), x -> x.damage(0, 0, 0, 1));
        refused(BAD, playing(lost), x -> x.damage(0, 4, -1, 1));
    }

    private static void promise9() {
        says("BYTE i (0 .. 255). BAD; LOST, TORN.");
        Player x = of(HOLES, 256);
        x.punch(0, 0, 0, 127);
        x.punch(0, 0, 1, 128);
        x.punch(0, 0, 255, 255);
        is(x, x.byteOf(0, 0, 9), 127, 0);
        is(x, x.byteOf(0, 0, 10), 128, 0);
        is(x, x.byteOf(0, 0, 264), 255, 0);
        for (int kind = 0; kind < 4; kind++) {
            int k = kind;
            within(TORN, 0, 8 + 256 * width(k), () -> of(k, 256), (y, v) -> y.byteOf(0, 0, v));
            within(TORN, 0, 8, () -> of(k, 0), (y, v) -> y.byteOf(0, 0, v));
            within(TORN, 0, 4, and(() -> of(k, 3), y -> y.tear(0, 0, 5)), (y, v) -> y.byteOf(0, 0, v));
        }
        refused(TORN, and(() -> of(HOLES, 3), y -> y.tear(0, 0, 0)), y -> y.byteOf(0, 0, 0));
        within(0, 0, Bounds::four, (y, v) -> y.byteOf(v, 0, 0));
        within(0, 3, Bounds::four, (y, v) -> y.byteOf(0, v, 0));
        Make lost = and(Bounds::four, y -> y.lose(0, 3));
        refused(LOST, lost, y -> y.byteOf(0, 3, 0));
        refused(LOST, lost, y -> y.byteOf(0, 3, -1));
        refused(LOST, playing(lost), y -> y.byteOf(0, 3, 0));
        refused(BAD, lost, y -> y.byteOf(0, 4, 0));
    }

    private static void promise10() {
        says("What its HEAD tells: 0 kind, 1 number, 2 length, 3 sum.");
        Player x = four();
        is(x, x.head(0, 3, 0), 3, 0);
        is(x, x.head(0, 3, 1), 300, 0);
        is(x, x.head(0, 3, 2), 3, 0);
        is(x, x.head(0, 3, 3), x.sum(0, 3), 0);
        says("BAD; LOST, TORN: a byte of that is not there.");
        for (int what = 0; what < 4; what++) {
            int w = what;
            let(four().head(0, 3, w), and(Bounds::four, y -> y.tear(0, 3, HEAD[w + 1])), y -> y.head(0, 3, w));
            for (int n = HEAD[w]; n < HEAD[w + 1]; n++) {
                int bytes = n;
                refusedLong(TORN, and(Bounds::four, y -> y.tear(0, 3, bytes)), y -> y.head(0, 3, w));
            }
            refusedLong(TORN, and(Bounds::four, y -> y.tear(0, 3, 0)), y -> y.head(0, 3, w));
            refusedLong(LOST, and(Bounds::four, y -> y.lose(0, 3)), y -> y.head(0, 3, w));
        }
        withinLong(0, 0, Bounds::four, (y, v) -> y.head(v, 0, 0));
        withinLong(0, 3, Bounds::four, (y, v) -> y.head(0, v, 0));
        withinLong(0, 3, Bounds::four, (y, v) -> y.head(0, 0, v));
        refusedLong(BAD, and(Bounds::four, y -> y.lose(0, 3)), y -> y.head(0, 3, 4));
        refusedLong(BAD, and(Bounds::four, y -> y.tear(0, 3, 0)), y -> y.head(0, 3, -1));
    }

    private static void promise11() {
        says("ITS SUM. BAD; LOST, TORN: one of the first five bytes is not there.");
        for (int n = 0; n < 9; n++) {
            int bytes = n;
            Make torn = and(Bounds::four, y -> y.tear(0, 3, bytes));
            if (n < 5) {
                refusedLong(TORN, torn, y -> y.sum(0, 3));
            } else {
                int s = ((((31 + 3) * 31 + 1) * 31 + 44) * 31) * 31 + 3;
                let(s, torn, y -> y.sum(0, 3));
            }
        }
        withinLong(0, 0, Bounds::four, (y, v) -> y.sum(v, 0));
        withinLong(0, 3, Bounds::four, (y, v) -> y.sum(0, v));
        refusedLong(LOST, and(Bounds::four, y -> y.lose(0, 3)), y -> y.sum(0, 3));
        refusedLong(LOST, and(and(Bounds::four, y -> y.tear(0, 3, 0)), y -> y.lose(0, 3)), y -> y.sum(0, 3));
    }

    private static void promise12() {
        says("It is READ: how many ELEMENTS it has. BAD; its FINDING.");
        for (int kind = 0; kind < 4; kind++) {
            int k = kind;
            for (int n : new int[] { 0, 1, 255, 256 }) let(n, () -> of(k, n), x -> x.read(0, 0));
        }
        within(0, 0, Bounds::four, (x, v) -> x.read(v, 0));
        within(0, 3, Bounds::four, (x, v) -> x.read(0, v));
        refused(LOST, playing(and(Bounds::four, x -> x.lose(0, 0))), x -> x.read(0, 0));
    }

    private static void promise13() {
        says("How many STRIPS of a ROLL are WHOLE. BAD.");
        let(0, () -> rolls(1), x -> x.whole(0));
        let(4, Bounds::four, x -> x.whole(0));
        let(200, () -> strips(400), x -> x.whole(1));
        Player x = four();
        for (int s = 0; s < 4; s++) {
            x.lose(0, s);
            is(x, x.whole(0), 3 - s, 0);
        }
        within(0, 1, () -> rolls(2), (y, v) -> y.whole(v));
    }

    private static void promise14() {
        says("Place of the k-th STRIP (from 0 on) of a ROLL that is not WHOLE; NONE. BAD: also k below 0.");
        refused(NONE, () -> rolls(1), x -> x.finding(0, 0));
        refused(NONE, Bounds::four, x -> x.finding(0, 0));
        Make two = and(and(Bounds::four, x -> x.lose(0, 0)), x -> x.tear(0, 3, 8));
        let(0, two, x -> x.finding(0, 0));
        let(3, two, x -> x.finding(0, 1));
        refused(NONE, two, x -> x.finding(0, 2));
        refused(NONE, two, x -> x.finding(0, MAX));
        refused(BAD, two, x -> x.finding(0, -1));
        refused(BAD, two, x -> x.finding(0, MIN));
        refused(BAD, two, x -> x.finding(1, 0));
        refused(BAD, two, x -> x.finding(-1, 0));
        refused(BAD, Player::new, x -> x.finding(0, 0));
        refused(BAD, two, x -> x.finding(1, -1));
        Player all = strips(400);
        for (int s = 0; s < 200; s++) all.lose(1, s);
        is(all, all.finding(1, 199), 199, 0);
        is(all, all.finding(1, 200), NONE, 0);
        is(all, all.finding(0, 0), NONE, 0);
    }

    private static void promise15() {
        says("THE LIST: 0 KIND, 1 NUMBER, 2 TICKS; 3 how many ELEMENTS it has (LOST: 0). BAD.");
        within(0, 3, Bounds::four, (x, v) -> x.told(0, 0, v));
        within(0, 3, Bounds::four, (x, v) -> x.told(0, v, 3));
        within(0, 0, Bounds::four, (x, v) -> x.told(v, 0, 3));
        for (int n : new int[] { 0, 1, 256 }) let(n, () -> of(TEMPO, n), x -> x.told(0, 0, 3));
        let(0, and(() -> of(TEMPO, 256), x -> x.lose(0, 0)), x -> x.told(0, 0, 3));
        let(0, and(() -> of(TEMPO, 256), x -> x.tear(0, 0, 12)), x -> x.told(0, 0, 3));
        let(1, and(() -> of(TEMPO, 256), x -> x.tear(0, 0, 13)), x -> x.told(0, 0, 3));
        refused(BAD, and(() -> of(TEMPO, 256), x -> x.lose(0, 0)), x -> x.told(0, 0, 4));
    }
}
