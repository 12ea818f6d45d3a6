/** Promises 39 to 48: each sentence that names a boundary case. */
final class EditingBoundsTest extends Bounds {
    private static final int HOLES = 0, LEVELS = 1, STOPS = 2, TEMPO = 3;
    private static final Make FOUR = Bounds::four;
    private static final Make BUSY_FOUR = playing(FOUR);

    public static void main(String[] args) {
        promise39();
        promise40();
        promise40Room();
        promise41();
        promise41Room();
        promise42();
        promise42Ends();
        promise42Room();
        promise43();
        promise43Spans();
        promise44();
        promise44Refused();
        promise45();
        promise46();
        promise46Room();
        promise47();
        promise48();
        Due.end("EditingBoundsTest");
    }

    /** Roll 0 of strips of these kinds, numbered 100 and on, of 2, 3, .. elements, each punched. */
    private static Player kinds(int... kinds) {
        Player x = rolls(1);
        for (int i = 0; i < kinds.length; i++) {
            x.strip(0, kinds[i], 100 + i, 2 + i, i);
            x.punch(0, i, 0, 0x81828384 + i);
        }
        return x;
    }

    private static Player holes(int n) {
        int[] kinds = new int[n];
        return kinds(kinds);
    }

    private static void numbers(Player x, int roll, int... due) {
        is(x, x.strips(roll), due.length);
        for (int i = 0; i < due.length; i++) is(x, x.told(roll, i, 1), due[i]);
    }

    private static void promise39() {
        says("STRIPS of a ROLL from place k on become a new ROLL: its number. BAD: k is not 0 .. how many it has; BUSY, FULL.");
        for (int n = 0; n <= 3; n++) {
            int strips = n;
            within(0, n, () -> holes(strips), (x, v) -> x.cut(0, v));
            for (int k = 0; k <= n; k++) {
                int at = k;
                Player x = let(1, () -> holes(strips), y -> y.cut(0, at));
                is(x, x.strips(0), k);
                is(x, x.strips(1), n - k);
                if (k < n) is(x, x.told(1, 0, 1), 100 + k);
                if (k > 0) is(x, x.told(0, k - 1, 1), 100 + k - 1);
            }
        }
        within(0, 18, () -> rolls(19), (x, v) -> x.cut(v, 0));
        refused(BAD, Player::new, x -> x.cut(0, 0));
        let(19, () -> rolls(19), x -> x.cut(18, 0));
        refused(FULL, () -> rolls(20), x -> x.cut(0, 0));
        Make all = and(() -> rolls(20), x -> x.strip(0, TEMPO, 1, 2, 3));
        refused(FULL, all, x -> x.cut(0, 0));
        refused(BUSY, playing(all), x -> x.cut(0, 0));
        refused(BAD, () -> rolls(20), x -> x.cut(0, 1));
        refused(BUSY, playing(() -> rolls(20)), x -> x.cut(0, 0));
        refused(BUSY, BUSY_FOUR, x -> x.cut(0, 4));
        refused(BAD, BUSY_FOUR, x -> x.cut(0, 5));
        refused(BAD, BUSY_FOUR, x -> x.cut(1, 0));
    }

    /** Roll 1 with a whole strip, a lost one, one without bytes, two torn ones and a damaged one. */
    private static Player six() {
        Player x = and(FOUR, y -> y.roll()).one();
        for (int i = 0; i < 6; i++) x.strip(1, i % 4, 30000, 3, 256);
        x.lose(1, 1);
        x.tear(1, 2, 0);
        x.tear(1, 3, 8);
        x.damage(1, 4, 0, 0x80);
        x.tear(1, 5, 1);
        return x;
    }

    private static void promise40() {
        says("Copies of all STRIPS of another ROLL come behind a ROLL's (BYTES and LIST alike; LOST ones, too): how many it has.");
        Player x = let(10, EditingBoundsTest::six, y -> y.join(0, 1));
        x.cut(0, 4);
        is(x, x.equal(1, 2), 1, 0);
        is(x, x.digest(1), x.digest(2));
        is(x, x.read(2, 1), LOST, 1);
        is(x, x.byteOf(2, 2, 0), TORN, 2);
        is(x, x.byteOf(2, 5, 0), 1, 0);
        is(x, x.byteOf(2, 5, 1), TORN, 2);
        let(4, and(FOUR, y -> y.roll()), y -> y.join(0, 1));
        let(4, and(FOUR, y -> y.roll()), y -> y.join(1, 0));
        let(0, () -> rolls(2), y -> y.join(1, 0));
        says("BAD: also the same; BUSY, FULL.");
        for (int other : new int[] { 1, -1, 2, MIN, MAX }) {
            Make make = () -> rolls(2);
            if (other == 1) refused(BAD, make, y -> y.join(1, other));
            else refused(BAD, make, y -> y.join(0, other));
            if (other != 1) refused(BAD, make, y -> y.join(other, 0));
            refused(BAD, make, y -> y.join(other, other));
        }
        refused(BAD, FOUR, y -> y.join(0, 0));
        refused(BUSY, playing(() -> rolls(2)), y -> y.join(0, 1));
        refused(BAD, playing(() -> rolls(2)), y -> y.join(0, 0));
        refused(BUSY, playing(() -> strips(400)), y -> y.join(0, 1));
    }

    /** So many strips: half of them in roll 0, as many in roll 1, and some more in roll 2. */
    private static Make three(int both, int more) {
        return () -> {
            Player x = strips(both);
            x.roll();
            for (int i = 0; i < more; i++) x.strip(2, 0, 0, 0, 0);
            return x;
        };
    }

    private static void promise40Room() {
        says("BAD: also the same; BUSY, FULL.");
        let(200, three(398, 1), x -> x.join(0, 2));
        refused(FULL, three(398, 2), x -> x.join(0, 2));
        refused(FULL, three(399, 1), x -> x.join(0, 2));
        refused(FULL, three(398, 1), x -> x.join(0, 1));
        // None comes: that has room anywhere.
        let(200, three(400, 0), x -> x.join(0, 2));
        // Elements, to the last one.
        let(33, and(and(() -> elements(7998), x -> x.roll()), x -> x.strip(1, 3, 0, 1, 0)), x -> x.join(0, 1));
        refused(FULL, and(and(() -> elements(7999), x -> x.roll()), x -> x.strip(1, 3, 0, 1, 0)), x -> x.join(0, 1));
        let(33, and(and(() -> elements(8000), x -> x.roll()), x -> x.strip(1, 3, 0, 0, 0)), x -> x.join(0, 1));
        let(33, and(and(and(() -> elements(7999), x -> x.roll()), x -> x.strip(1, 3, 0, 1, 0)), x -> x.lose(1, 0)),
            x -> x.join(0, 1));
        refused(FULL, and(() -> elements(8000), x -> x.roll()), x -> x.join(1, 0));
    }

    private static void promise41() {
        says("Copies of n STRIPS from place i on come right behind these: how many it has.");
        int[][] due = { { 0, 1 }, { 100, 100, 101, 102 }, { 1, 2 }, { 100, 101, 102, 101, 102 }, { 2, 1 },
            { 100, 101, 102, 102 }, { 0, 3 }, { 100, 101, 102, 100, 101, 102 } };
        for (int d = 0; d < due.length; d += 2) {
            int[] at = due[d];
            numbers(let(3 + at[1], () -> holes(3), x -> x.repeat(0, at[0], at[1])), 0, due[d + 1]);
        }
        for (int i = 0; i <= 3; i++) {
            int at = i;
            numbers(let(3, () -> holes(3), x -> x.repeat(0, at, 0)), 0, 100, 101, 102);
        }
        Player x = let(12, EditingBoundsTest::six, y -> y.repeat(1, 0, 6));
        x.cut(1, 6);
        is(x, x.equal(1, 2), 1, 0);
        says("BAD: n is not 0 .. 8, or these are not there; BUSY, FULL.");
        within(0, 8, () -> holes(9), (y, v) -> y.repeat(0, 0, v));
        within(0, 8, () -> holes(9), (y, v) -> y.repeat(0, 1, v));
        within(0, 1, () -> holes(9), (y, v) -> y.repeat(0, v, 8));
        within(0, 8, () -> holes(9), (y, v) -> y.repeat(0, v, 1));
        within(0, 9, () -> holes(9), (y, v) -> y.repeat(0, v, 0));
        within(0, 3, () -> holes(3), (y, v) -> y.repeat(0, 0, v));
        within(0, 0, () -> holes(3), (y, v) -> y.repeat(0, v, 3));
        within(0, 0, () -> holes(3), (y, v) -> y.repeat(v, 0, 3));
        within(0, 0, () -> rolls(1), (y, v) -> y.repeat(0, 0, v));
        within(0, 0, () -> rolls(1), (y, v) -> y.repeat(0, v, 0));
        for (int n : new int[] { -1, 9, MIN, MAX }) {
            for (int i : new int[] { 0, 3, MIN, MAX }) refused(BAD, () -> holes(3), y -> y.repeat(0, i, n));
        }
        refused(BAD, Player::new, y -> y.repeat(0, 0, 0));
        refused(BUSY, BUSY_FOUR, y -> y.repeat(0, 0, 1));
        refused(BUSY, BUSY_FOUR, y -> y.repeat(0, 0, 0));
        refused(BAD, BUSY_FOUR, y -> y.repeat(0, 0, 5));
        refused(BUSY, playing(() -> strips(400)), y -> y.repeat(0, 0, 1));
    }

    private static void promise41Room() {
        says("BAD: n is not 0 .. 8, or these are not there; BUSY, FULL.");
        let(204, () -> strips(392), x -> x.repeat(0, 188, 8));
        refused(FULL, () -> strips(393), x -> x.repeat(0, 188, 8));
        let(204, () -> strips(393), x -> x.repeat(0, 190, 7));
        refused(FULL, () -> strips(400), x -> x.repeat(0, 0, 1));
        let(200, () -> strips(400), x -> x.repeat(0, 200, 0));
        refused(BAD, () -> strips(400), x -> x.repeat(0, 200, 1));
        // 7936 and 32 once more; the same with one too many.
        let(33, () -> elements(7968), x -> x.repeat(0, 31, 1));
        refused(FULL, () -> elements(7969), x -> x.repeat(0, 31, 1));
        refused(FULL, () -> elements(7968), x -> x.repeat(0, 30, 1));
        refused(FULL, () -> elements(7968), x -> x.repeat(0, 30, 2));
        // Full of elements: only those without any.
        let(33, and(() -> elements(8000), x -> x.lose(0, 31)), x -> x.repeat(0, 31, 1));
        let(33, and(() -> elements(8000), x -> x.tear(0, 31, 9)), x -> x.repeat(0, 31, 1));
        refused(FULL, () -> elements(8000), x -> x.repeat(0, 31, 1));
        let(32, () -> elements(8000), x -> x.repeat(0, 31, 0));
    }

    private static void moved(int came, int status, Make make, Act act) {
        Player x = make.one();
        is(x, act.on(x), came, status);
    }

    private static void promise42() {
        says("One by one, k from 0 to n - 1: BYTES of STRIP i + k of a ROLL come as a copy to STRIP j + k of another one (or the same) in place of those there: how many came.");
        for (int n = 0; n <= 8; n++) {
            int strips = n;
            Player x = holes(9);
            x.roll();
            for (int i = 0; i < 9; i++) x.strip(1, HOLES, 200 + i, 1, 0);
            is(x, x.move(0, 0, strips, 1, 1), n, 0);
            for (int i = 0; i < 9; i++) {
                boolean came = i > 0 && i <= n;
                is(x, x.told(1, i, 3), came ? 1 + i : 1);
                is(x, x.told(1, i, 1), 200 + i);
                is(x, x.head(1, i, 1), came ? 99 + i : 200 + i);
            }
        }
        // The same roll: forward what came first goes on, backward each comes as it was; onto itself nothing is new.
        Player on = holes(9);
        is(on, on.move(0, 0, 8, 0, 1), 8, 0);
        for (int i = 0; i < 9; i++) is(on, on.head(0, i, 1), 100);
        Player back = holes(9);
        is(back, back.move(0, 1, 8, 0, 0), 8, 0);
        for (int i = 0; i < 9; i++) is(back, back.head(0, i, 1), i == 8 ? 108 : 101 + i);
        Player self = holes(8);
        long digest = self.digest(0);
        is(self, self.move(0, 0, 8, 0, 0), 8, 0);
        is(self, self.digest(0), digest);
        // Of none of its bytes, of one, of all but the last of its head, of its head alone.
        for (int bytes : new int[] { 0, 1, 8, 9 }) {
            Player x = kinds(LEVELS, LEVELS);
            for (int i = 0; i < 9; i++) x.damage(0, 0, i, 0x40 + i);
            x.tear(0, 0, bytes);
            is(x, x.move(0, 0, 1, 0, 1), 1, 0);
            for (int i = 0; i <= bytes; i++) is(x, x.byteOf(0, 1, i), x.byteOf(0, 0, i));
            is(x, x.byteOf(0, 1, bytes), TORN, 2);
        }
        // A copy: what is done to one is not done to the other.
        back.punch(0, 0, 0, 0x55);
        is(back, back.byteOf(0, 1, 9) == 0x55 ? 1 : 0, 0);
        says("BAD: n is not 0 .. 8; BUSY.");
        within(0, 8, () -> holes(9), (x, v) -> x.move(0, 0, v, 0, 1));
        within(0, 0, () -> holes(9), (x, v) -> x.move(v, 0, 8, 0, 1));
        within(0, 0, () -> holes(9), (x, v) -> x.move(0, 0, 8, v, 1));
        for (int n : new int[] { -1, 9, MIN, MAX }) refused(BAD, () -> holes(9), x -> x.move(0, MAX, n, 0, MIN));
        refused(BAD, () -> holes(9), x -> x.move(1, 0, 0, 0, 0));
        refused(BAD, () -> holes(9), x -> x.move(0, 0, 0, 1, 0));
        refused(BUSY, BUSY_FOUR, x -> x.move(0, 0, 0, 0, 0));
        refused(BUSY, BUSY_FOUR, x -> x.move(0, MIN, 8, 0, MAX));
        refused(BAD, BUSY_FOUR, x -> x.move(0, 0, 9, 0, 0));
    }

    private static void promise42Ends() {
        says("It ends earlier, and status() tells why, at: TORN: one of both is not there (i, j are any numbers); LOST: one is; KIND: unlike ones; FULL: it would be too many ELEMENTS.");
        Make nine = () -> holes(9);
        for (int far : new int[] { MIN, MIN + 1, -8, -1, 9, MAX - 7, MAX }) {
            for (int n : new int[] { 1, 8 }) {
                refused(0, 2, nine, x -> x.move(0, far, n, 0, 0));
                refused(0, 2, nine, x -> x.move(0, 0, n, 0, far));
                refused(0, 2, nine, x -> x.move(0, far, n, 0, far));
            }
            moved(0, 0, nine, x -> x.move(0, far, 0, 0, far));
        }
        moved(1, 2, nine, x -> x.move(0, 8, 2, 0, 0));
        moved(1, 2, nine, x -> x.move(0, 0, 2, 0, 8));
        moved(7, 2, nine, x -> x.move(0, 2, 8, 0, 0));
        moved(8, 0, nine, x -> x.move(0, 1, 8, 0, 0));
        // Lost: the one or the other.
        Make lost = and(nine, x -> x.lose(0, 4));
        refused(0, 1, lost, x -> x.move(0, 4, 1, 0, 0));
        refused(0, 1, lost, x -> x.move(0, 0, 1, 0, 4));
        refused(0, 1, lost, x -> x.move(0, 4, 1, 0, 4));
        moved(2, 1, lost, x -> x.move(0, 2, 8, 0, 0));
        moved(4, 2, lost, x -> x.move(0, 0, 8, 0, 5));
        moved(3, 1, lost, x -> x.move(0, 0, 8, 0, 1));
        // Unlike by the list, not by what the heads tell.
        Make unlike = () -> kinds(HOLES, LEVELS, STOPS, TEMPO);
        for (int i = 0; i < 4; i++) {
            for (int j = 0; j < 4; j++) {
                int one = i;
                int other = j;
                if (i == j) moved(1, 0, unlike, x -> x.move(0, one, 1, 0, other));
                else refused(0, 5, unlike, x -> x.move(0, one, 1, 0, other));
            }
        }
        refused(0, 5, and(unlike, x -> x.damage(0, 0, 0, 1)), x -> x.move(0, 0, 1, 0, 1));
        moved(1, 0, and(unlike, x -> x.damage(0, 0, 0, 1)), x -> x.move(0, 0, 1, 0, 0));
        // The first that is met: not there, lost, unlike.
        refused(0, 2, lost, x -> x.move(0, 4, 1, 0, 9));
        refused(0, 1, and(unlike, x -> x.lose(0, 0)), x -> x.move(0, 0, 1, 0, 1));
        refused(0, 1, and(unlike, x -> x.lose(0, 1)), x -> x.move(0, 0, 1, 0, 1));
        // Those ahead of it have come.
        Player x = and(lost, y -> y.move(0, 2, 8, 0, 0)).one();
        is(x, x.head(0, 0, 1), 102);
        is(x, x.head(0, 1, 1), 103);
        is(x, x.head(0, 2, 1), 102);
    }

    private static void promise42Room() {
        says("FULL: it would be too many ELEMENTS.");
        // 256 in place of 64: 192 more, so that 7808 have room for them, and 7809 have not.
        Make room = and(() -> elements(8000), x -> x.tear(0, 30, 9 + 64));
        Player x = room.one();
        is(x, x.count(6), 7808);
        is(x, x.move(0, 0, 1, 0, 31), 1, 0);
        is(x, x.count(6), 8000);
        refused(0, FULL, and(() -> elements(8000), y -> y.tear(0, 30, 9 + 65)), y -> y.move(0, 0, 1, 0, 31));
        refused(0, FULL, () -> elements(8000), y -> y.move(0, 0, 1, 0, 31));
        // As many, or fewer, in place of those there: always.
        moved(8, 0, () -> elements(8000), y -> y.move(0, 0, 8, 0, 8));
        moved(1, 0, () -> elements(8000), y -> y.move(0, 31, 1, 0, 0));
        // Two of them: 7616 have room for both, 7617 for the first one alone.
        Make two = and(and(() -> elements(8000), y -> y.tear(0, 29, 9 + 64)), y -> y.tear(0, 30, 9 + 64));
        moved(2, 0, two, y -> y.move(0, 0, 2, 0, 29));
        moved(1, FULL, and(two, y -> y.strip(0, HOLES, 0, 1, 0)), y -> y.move(0, 0, 2, 0, 29));
        // Less by the first makes room for the second, not the other way round.
        Make less = and(and(() -> elements(8000), y -> y.tear(0, 4, 9)), y -> y.strip(0, HOLES, 0, 256, 0));
        moved(2, 0, less, y -> y.move(0, 4, 2, 0, 30));
        refused(0, FULL, less, y -> y.move(0, 3, 2, 0, 31));
        // All strips are there: their bytes can be others all the same.
        moved(8, 0, () -> strips(400), y -> y.move(0, 0, 8, 1, 192));
        // Another kind is told ahead of it, and lost, and not there.
        Make other = and(and(() -> elements(8000), y -> y.strip(0, TEMPO, 0, 0, 0)), y -> y.lose(0, 31));
        refused(0, 5, other, y -> y.move(0, 0, 1, 0, 32));
        refused(0, 1, other, y -> y.move(0, 0, 1, 0, 31));
        refused(0, 2, other, y -> y.move(0, 0, 1, 0, 33));
    }

    private static void promise43() {
        says("n ELEMENTS from place from on of a STRIP come as a copy to those from place at on of another one (or the same; as they were): n.");
        for (int kind = 0; kind < 4; kind++) {
            int w = width(kind);
            Player x = rolls(1);
            x.strip(0, kind, 1, 256, 0);
            x.strip(0, kind, 1, 256, 0);
            for (int k = 0; k < 4; k++) x.punch(0, 0, k, 0x81828384 + 0x01010101 * 4 * k);
            x.punch(0, 0, 255, 0x71727374);
            is(x, x.copy(0, 0, 0, 256, 0, 1, 0), 256, 0);
            for (int k : new int[] { 0, 3, 4, 255 }) {
                for (int i = 0; i < w; i++) is(x, x.byteOf(0, 1, 9 + k * w + i), x.byteOf(0, 0, 9 + k * w + i));
            }
            // One on, one back, in the same strip: as they were.
            is(x, x.copy(0, 1, 0, 255, 0, 1, 1), 255, 0);
            for (int k : new int[] { 1, 2, 4, 5 }) is(x, x.byteOf(0, 1, 9 + k * w), x.byteOf(0, 0, 9 + (k - 1) * w));
            is(x, x.byteOf(0, 1, 9), x.byteOf(0, 0, 9));
            is(x, x.copy(0, 1, 1, 255, 0, 1, 0), 255, 0);
            for (int k = 0; k < 5; k++) is(x, x.byteOf(0, 1, 9 + k * w), x.byteOf(0, 0, 9 + k * w));
            // The last one alone.
            is(x, x.copy(0, 0, 255, 1, 0, 1, 0), 1, 0);
            is(x, x.byteOf(0, 1, 9), x.byteOf(0, 0, 9 + 255 * w));
            is(x, x.byteOf(0, 1, 9 + w), x.byteOf(0, 0, 9 + w));
        }
        says("(HEADS stay.)");
        Player x = kinds(LEVELS, LEVELS);
        long[] head = { x.head(0, 1, 0), x.head(0, 1, 1), x.head(0, 1, 2), x.head(0, 1, 3) };
        is(x, x.copy(0, 0, 0, 2, 0, 1, 1), 2, 0);
        for (int what = 0; what < 4; what++) is(x, x.head(0, 1, what), head[what]);
        is(x, x.read(0, 1), SUM, 9);
    }

    private static void promise43Spans() {
        says("BAD, BUSY; LOST (the first, then the other one); KIND: unlike ones; SPAN: they are not there (n 0: from, at may be right behind the last), or n is below 0.");
        for (int kind = 0; kind < 4; kind++) {
            int k = kind;
            // Strip 0 has six, strip 1 four.
            Make two = () -> {
                Player x = rolls(1);
                x.strip(0, k, 1, 6, 0);
                x.strip(0, k, 1, 4, 0);
                for (int i = 0; i < 6; i++) x.punch(0, 0, i, 0x01010101 * (i + 1));
                return x;
            };
            within(SPAN, 0, 4, two, (x, v) -> x.copy(0, 0, 0, v, 0, 1, 0));
            within(SPAN, 0, 3, two, (x, v) -> x.copy(0, 0, 3, v, 0, 1, 1));
            within(SPAN, 0, 5, two, (x, v) -> x.copy(0, 0, v, 1, 0, 1, 0));
            within(SPAN, 0, 6, two, (x, v) -> x.copy(0, 0, v, 0, 0, 1, 4));
            within(SPAN, 0, 3, two, (x, v) -> x.copy(0, 0, 0, 1, 0, 1, v));
            within(SPAN, 0, 4, two, (x, v) -> x.copy(0, 0, 6, 0, 0, 1, v));
            within(SPAN, 0, 0, two, (x, v) -> x.copy(0, 0, 2, 4, 0, 1, v));
            within(SPAN, 0, 2, two, (x, v) -> x.copy(0, 0, v, 4, 0, 1, 0));
            for (int far : new int[] { MIN, -1, MAX }) {
                refused(SPAN, two, x -> x.copy(0, 0, far, far, 0, 1, far));
                refused(SPAN, two, x -> x.copy(0, 0, 1, far, 0, 1, 1));
                refused(SPAN, two, x -> x.copy(0, 0, far, 4, 0, 1, far));
            }
            // None are there at all: none can come.
            Make torn = and(two, x -> x.tear(0, 0, 8));
            within(SPAN, 0, 0, torn, (x, v) -> x.copy(0, 0, 0, v, 0, 1, 0));
            within(SPAN, 0, 0, torn, (x, v) -> x.copy(0, 0, v, 0, 0, 1, 4));
            within(SPAN, 0, 0, torn, (x, v) -> x.copy(0, 1, 4, 0, 0, 0, v));
        }
        Make unlike = and(() -> kinds(HOLES, LEVELS, LEVELS), x -> x.roll());
        within(0, 0, unlike, (x, v) -> x.copy(v, 1, 0, 1, 0, 2, 0));
        within(0, 0, unlike, (x, v) -> x.copy(0, 1, 0, 1, v == 1 ? 2 : v, 2, 0));
        within(1, 2, unlike, (x, v) -> x.copy(0, v == 0 ? 3 : v, 0, 1, 0, 2, 0));
        within(1, 2, unlike, (x, v) -> x.copy(0, 1, 0, 1, 0, v == 0 ? 3 : v, 0));
        refused(KIND, unlike, x -> x.copy(0, 0, 0, 1, 0, 1, 0));
        refused(KIND, unlike, x -> x.copy(0, 1, 0, 0, 0, 0, 0));
        refused(KIND, unlike, x -> x.copy(0, 0, 0, -1, 0, 1, 0));
        refused(KIND, unlike, x -> x.copy(0, 0, MAX, MAX, 0, 1, MIN));
        for (int lost = 0; lost < 2; lost++) {
            int one = lost;
            Make make = and(unlike, x -> x.lose(0, one));
            refused(LOST, make, x -> x.copy(0, 0, 0, -1, 0, 1, 0));
            refused(LOST, make, x -> x.copy(0, 1, 0, 0, 0, 0, 0));
            refused(BUSY, playing(make), x -> x.copy(0, 0, 0, -1, 0, 1, 0));
            refused(BAD, make, x -> x.copy(0, one, 0, 1, 1, 0, 0));
            refused(BAD, playing(make), x -> x.copy(0, 3, 0, 1, 0, one, 0));
        }
        refused(LOST, and(and(unlike, x -> x.lose(0, 0)), x -> x.lose(0, 1)), x -> x.copy(0, 0, 0, 1, 0, 1, 0));
        refused(LOST, and(unlike, x -> x.lose(0, 1)), x -> x.copy(0, 1, 0, 0, 0, 1, 0));
        refused(BUSY, playing(unlike), x -> x.copy(0, 1, 0, 1, 0, 2, 0));
    }

    private static void promise44() {
        says("All ELEMENTS of a STRIP of HOLES move n bits to the higher ones (below 0: to the lower ones); it is SEALED. What falls off is FALLEN, ELEMENT by ELEMENT, by TRACKS, in place of what was: how many.");
        for (int n = -7; n <= 7; n++) {
            for (int e : new int[] { 0, 1, 0x80, 0x81, 0x7f, 0xff }) {
                Player x = rolls(1);
                x.strip(0, HOLES, 9, 2, 0);
                x.punch(0, 0, 1, e);
                int falls = 0;
                for (int t = 0; t < 8; t++) falls += (e >> t & 1) == 1 && (t + n < 0 || t + n > 7) ? 1 : 0;
                is(x, x.transpose(0, 0, n), falls, 0);
                is(x, x.byteOf(0, 0, 10), (n < 0 ? e >> -n : e << n) & 255);
                is(x, x.byteOf(0, 0, 9), 0);
                is(x, x.read(0, 0), 2, 0);
                is(x, x.count(5), falls);
                int k = 0;
                for (int t = 0; t < 8; t++) {
                    if ((e >> t & 1) == 0 || (t + n >= 0 && t + n <= 7)) continue;
                    is(x, x.fallen(k, 0), 1);
                    is(x, x.fallen(k, 1), t);
                    k++;
                }
            }
        }
        // Nothing there: nothing falls, in place of what was.
        Player none = kinds(HOLES, HOLES);
        none.tear(0, 1, 9);
        none.seal(0, 1);
        is(none, none.transpose(0, 0, 7), 2);
        is(none, none.transpose(0, 1, 7), 0, 0);
        is(none, none.count(5), 0);
        is(none, none.fallen(0, 0), NONE, 0);
        // Not moved at all.
        is(none, none.transpose(0, 0, 0), 0, 0);
    }

    private static Make with(Make make, int fallen) {
        return () -> {
            Player x = make.one();
            int s = x.strip(0, HOLES, 7, 1, 0);
            x.punch(0, s, 0, 255);
            x.transpose(0, s, fallen);
            return x;
        };
    }

    private static void promise44Refused() {
        says("BAD: n is not -7 .. 7; BUSY; KIND: no HOLES; its FINDING.");
        // What has fallen before stays so when a later one is refused.
        Make four = with(FOUR, 2);
        within(-7, 7, four, (x, v) -> x.transpose(0, 0, v));
        within(0, 0, four, (x, v) -> x.transpose(v, 0, 1));
        for (int s : new int[] { -1, 5, MIN, MAX }) refused(BAD, four, x -> x.transpose(0, s, 1));
        for (int kind = 1; kind < 4; kind++) {
            int k = kind;
            refused(KIND, four, x -> x.transpose(0, k, 1));
            refused(KIND, four, x -> x.transpose(0, k, 0));
            refused(KIND, and(four, x -> x.lose(0, k)), x -> x.transpose(0, k, 1));
            refused(BAD, four, x -> x.transpose(0, k, 8));
            refused(BUSY, playing(four), x -> x.transpose(0, k, 1));
        }
        refused(LOST, and(four, x -> x.lose(0, 0)), x -> x.transpose(0, 0, 1));
        refused(TORN, and(four, x -> x.tear(0, 0, 8)), x -> x.transpose(0, 0, 1));
        refused(KIND, and(four, x -> setHead(x, 0, 1)), x -> x.transpose(0, 0, 1));
        refused(LONG, and(four, x -> setHead(x, 2, 4)), x -> x.transpose(0, 0, 1));
        refused(SIZE, and(four, x -> setHead(x, 2, -1)), x -> x.transpose(0, 0, 1));
        refused(SHORT, and(four, x -> setHead(x, 2, 2)), x -> x.transpose(0, 0, 1));
        refused(SUM, and(four, x -> x.damage(0, 0, 9, 1)), x -> x.transpose(0, 0, 0));
        refused(BUSY, playing(and(four, x -> x.lose(0, 0))), x -> x.transpose(0, 0, 1));
        refused(BAD, playing(four), x -> x.transpose(0, 0, -8));
    }

    private static void promise45() {
        says("Of what is FALLEN the k-th: what = 0 its ELEMENT, 1 its TRACK (as it was). NONE. BAD: what, k below 0.");
        Make three = with(FOUR, 3);
        within(0, 1, three, (x, v) -> x.fallen(0, v));
        let(0, three, x -> x.fallen(2, 0));
        let(7, three, x -> x.fallen(2, 1));
        let(5, three, x -> x.fallen(0, 1));
        let(2, with(FOUR, -3), x -> x.fallen(2, 1));
        for (int what = 0; what < 2; what++) {
            int w = what;
            refused(NONE, three, x -> x.fallen(3, w));
            refused(NONE, three, x -> x.fallen(MAX, w));
            refused(BAD, three, x -> x.fallen(-1, w));
            refused(BAD, three, x -> x.fallen(MIN, w));
            refused(NONE, Player::new, x -> x.fallen(0, w));
            refused(NONE, with(FOUR, 0), x -> x.fallen(0, w));
        }
        for (int what : new int[] { -1, 2, MIN, MAX }) {
            refused(BAD, three, x -> x.fallen(0, what));
            refused(BAD, three, x -> x.fallen(3, what));
            refused(BAD, Player::new, x -> x.fallen(0, what));
        }
        // As many as can fall: seven of each of 256.
        for (int n : new int[] { 7, -7 }) {
            Player x = rolls(1);
            x.strip(0, HOLES, 0, 256, 0);
            x.punch(0, 0, 0, 255);
            for (int have = 1; have < 256; have *= 2) x.copy(0, 0, 0, have, 0, 0, have);
            x.seal(0, 0);
            is(x, x.transpose(0, 0, n), 1792, 0);
            is(x, x.count(5), 1792);
            is(x, x.fallen(1791, 0), 255, 0);
            is(x, x.fallen(1791, 1), n > 0 ? 7 : 6, 0);
            is(x, x.fallen(0, 1), n > 0 ? 1 : 0, 0);
            is(x, x.fallen(1785, 0), 255);
            is(x, x.fallen(1784, 0), 254);
            is(x, x.fallen(1792, 0), NONE, 0);
        }
    }

    /** Roll 0 with one strip; roll 1 with these: of its kind or number alone, not whole, and two that fit. */
    private static Player sources() {
        Player x = kinds(LEVELS);
        x.roll();
        x.strip(1, HOLES, 100, 9, 0);
        x.strip(1, LEVELS, 101, 9, 0);
        x.strip(1, LEVELS, 100, 9, 0);
        x.strip(1, LEVELS, 100, 5, 0);
        x.strip(1, LEVELS, 100, 6, 0);
        x.damage(1, 2, 8, 1);
        return x;
    }

    private static void promise46() {
        says("A STRIP gets a copy of the BYTES of the first STRIP of another ROLL (or the same) that is of its KIND and NUMBER and WHOLE: that one's place; NONE: there is none; FULL: too many ELEMENTS.");
        Make lost = and(EditingBoundsTest::sources, x -> x.lose(0, 0));
        Player x = let(3, lost, y -> y.mend(0, 0, 1));
        is(x, x.read(0, 0), 5);
        is(x, x.told(0, 0, 2), 0);
        // However it is not whole.
        let(3, and(EditingBoundsTest::sources, y -> y.tear(0, 0, 0)), y -> y.mend(0, 0, 1));
        let(3, and(EditingBoundsTest::sources, y -> y.tear(0, 0, 8)), y -> y.mend(0, 0, 1));
        for (int i = 0; i < 13; i++) {
            int at = i;
            Player z = let(3, and(EditingBoundsTest::sources, y -> y.damage(0, 0, at, 0x40)), y -> y.mend(0, 0, 1));
            is(z, z.read(0, 0), 5);
        }
        // None: another kind, another number, not whole, and itself; in an empty roll, too.
        refused(NONE, lost, y -> y.mend(0, 0, 0));
        refused(NONE, and(and(lost, y -> y.lose(1, 3)), y -> y.tear(1, 4, 8)), y -> y.mend(0, 0, 1));
        let(4, and(lost, y -> y.lose(1, 3)), y -> y.mend(0, 0, 1));
        refused(NONE, and(lost, y -> y.roll()), y -> y.mend(0, 0, 2));
        // The same roll: one ahead of it, one behind it.
        let(3, EditingBoundsTest::sources, y -> y.mend(1, 2, 1));
        let(3, and(EditingBoundsTest::sources, y -> y.lose(1, 4)), y -> y.mend(1, 4, 1));
        let(0, and(EditingBoundsTest::sources, y -> y.lose(1, 4)), y -> y.mend(1, 4, 0));
        says("It stays as it is, if it is WHOLE itself: its own place. BAD, BUSY.");
        refused(4, 0, EditingBoundsTest::sources, y -> y.mend(1, 4, 1));
        refused(4, 0, EditingBoundsTest::sources, y -> y.mend(1, 4, 0));
        refused(0, 0, EditingBoundsTest::sources, y -> y.mend(0, 0, 1));
        within(0, 0, and(() -> kinds(HOLES), y -> y.cut(0, 1)), (y, v) -> y.mend(v == 1 ? 2 : v, 0, 1));
        within(0, 3, FOUR, (y, v) -> y.mend(0, v, 0));
        within(0, 0, FOUR, (y, v) -> y.mend(0, 0, v));
        refused(BAD, lost, y -> y.mend(0, 0, 2));
        refused(BAD, lost, y -> y.mend(0, 1, 1));
        refused(BUSY, playing(lost), y -> y.mend(0, 0, 1));
        refused(BUSY, playing(lost), y -> y.mend(0, 0, 0));
        refused(BUSY, BUSY_FOUR, y -> y.mend(0, 0, 0));
        refused(BAD, playing(lost), y -> y.mend(0, 0, 2));
    }

    private static void promise46Room() {
        says("NONE: there is none; FULL: too many ELEMENTS.");
        // A strip without elements that could get 256: 7744 have room for these, 7745 have not.
        Make torn = and(() -> elements(8000), x -> x.tear(0, 31, 9));
        Player x = and(torn, y -> y.tear(0, 30, 9 + 64)).one();
        is(x, x.count(6), 7744);
        is(x, x.mend(0, 31, 0), 0, 0);
        is(x, x.count(6), 8000);
        refused(FULL, and(torn, y -> y.tear(0, 30, 9 + 65)), y -> y.mend(0, 31, 0));
        refused(FULL, torn, y -> y.mend(0, 31, 0));
        refused(FULL, and(torn, y -> y.lose(0, 31)), y -> y.mend(0, 31, 0));
        refused(BUSY, playing(torn), y -> y.mend(0, 31, 0));
        // Its own elements count no more: 256 in place of 256.
        let(1, and(() -> elements(8000), y -> y.damage(0, 0, 8, 1)), y -> y.mend(0, 0, 0));
        let(1, and(and(() -> elements(8000), y -> y.damage(0, 0, 3, 0xff)), y -> y.damage(0, 31, 8, 1)), y -> y.mend(0, 0, 0));
        // All strips are there: their bytes can be others all the same.
        let(0, and(() -> strips(400), y -> y.lose(1, 199)), y -> y.mend(1, 199, 0));
        // Where there is none it is not full.
        refused(NONE, and(and(() -> elements(7936), y -> y.strip(0, TEMPO, 0, 64, 0)), y -> y.damage(0, 32, 8, 1)),
            y -> y.mend(0, 32, 0));
    }

    private static void promise47() {
        says("Whether two ROLLS have as many STRIPS, of the same KINDS, NUMBERS, TICKS and BYTES, in order (LOST where the other is): 1, 0. BAD.");
        let(1, () -> rolls(2), x -> x.equal(0, 1));
        let(1, () -> rolls(1), x -> x.equal(0, 0));
        let(1, EditingBoundsTest::six, x -> x.equal(1, 1));
        Make same = and(and(EditingBoundsTest::six, x -> x.cut(0, 0)), x -> x.join(0, 1));
        let(1, same, x -> x.equal(0, 1));
        let(1, same, x -> x.equal(1, 0));
        // One more, one fewer; one byte, the first or the last; no bytes and lost.
        Act[] changes = { x -> x.strip(0, 0, 0, 0, 0), x -> x.strip(1, 0, 0, 0, 0), x -> x.cut(0, 4), x -> x.cut(1, 0),
            x -> x.damage(0, 0, 0, 1), x -> x.damage(1, 0, 11, 0x80), x -> x.damage(1, 4, 8, 1), x -> x.tear(0, 0, 11),
            x -> x.lose(0, 2), x -> x.lose(1, 2), x -> x.lose(1, 0), x -> x.seal(0, 2), x -> x.tear(1, 3, 7) };
        for (Act change : changes) {
            let(0, and(same, change), x -> x.equal(0, 1));
            let(0, and(same, change), x -> x.equal(1, 0));
        }
        // The list alone, at the ends of what it can tell; and the order alone.
        int[][] lists = { { 0, 0, 0 }, { 3, 0, 0 }, { 0, 30000, 0 }, { 0, 0, 256 } };
        for (int i = 0; i < 4; i++) {
            for (int j = 0; j < 4; j++) {
                Player x = rolls(2);
                x.strip(0, lists[i][0], lists[i][1], 0, lists[i][2]);
                x.strip(1, lists[j][0], lists[j][1], 0, lists[j][2]);
                x.lose(0, 0);
                x.lose(1, 0);
                is(x, x.equal(0, 1), i == j ? 1 : 0, 0);
            }
        }
        Player x = rolls(2);
        for (int r = 0; r < 2; r++) for (int s = 0; s < 2; s++) x.strip(r, 0, r ^ s, 0, 0);
        is(x, x.equal(0, 1), 0, 0);
        for (int other : new int[] { -1, 2, MIN, MAX }) {
            refused(BAD, () -> rolls(2), y -> y.equal(0, other));
            refused(BAD, () -> rolls(2), y -> y.equal(other, 0));
            refused(BAD, () -> rolls(2), y -> y.equal(other, other));
        }
        let(1, playing(() -> rolls(2)), y -> y.equal(0, 1));
    }

    private static void promise48() {
        says("s is 7; for each STRIP: s is s * 31 + KIND, then likewise NUMBER, TICKS, each BYTE (with sign); 32 bits. BAD.");
        let(7, () -> rolls(1), x -> x.digest(0));
        withinLong(0, 19, () -> rolls(20), (x, v) -> x.digest(v));
        refusedLong(BAD, Player::new, x -> x.digest(0));
        refusedLong(BAD, BUSY_FOUR, x -> x.digest(1));
        // Bytes of either sign and enough to go around in 32 bits many times.
        for (int v : new int[] { 0x7f7f7f7f, 0x80808080, -1 }) {
            for (int strips = 1; strips < 4; strips++) {
                Player x = rolls(1);
                java.math.BigInteger s = java.math.BigInteger.valueOf(7);
                for (int i = 0; i < strips; i++) {
                    x.strip(0, TEMPO, 30000, 4, 256);
                    for (int k = 0; k < 4; k++) x.punch(0, i, k, v);
                    s = next(next(next(s, TEMPO), 30000), 256);
                    for (int b = 0; b < 25; b++) s = next(s, (byte) x.byteOf(0, i, b));
                }
                is(x, x.digest(0), s.intValue(), 0);
            }
        }
        // Lost ones, and those without bytes, have their list alone.
        int list = ((7 * 31 + 3) * 31 + 5) * 31 + 1;
        let(list, and(() -> of(TEMPO, 3), x -> x.lose(0, 0)), x -> x.digest(0));
        let(list, and(() -> of(TEMPO, 3), x -> x.tear(0, 0, 0)), x -> x.digest(0));
        let(list * 31 + 3, and(() -> of(TEMPO, 3), x -> x.tear(0, 0, 1)), x -> x.digest(0));
    }

    private static java.math.BigInteger next(java.math.BigInteger s, int v) {
        return s.multiply(java.math.BigInteger.valueOf(31)).add(java.math.BigInteger.valueOf(v));
    }
}
