import java.util.ArrayList;

/**
 * A player of punched rolls. The document ../shared/DOC.md says what each call
 * answers; the words in capitals are the document's own.
 */
public final class RollPlayer {
    public static final int BAD = -1, FULL = -2, BUSY = -3, NONE = -4;

    // The FINDINGS.
    private static final int LOST = 1, TORN = 2, SIZE = 3, SPAN = 4, KIND = 5, STORE = 6,
            LONG = 7, SHORT = 8, SUM = 9, SPOILT = 10;

    private static final int MOST_ROLLS = 20, MOST_STRIPS = 400, MOST_ELEMENTS = 8000;
    private static final int MOST_AT_ONCE = 8;
    private static final int TRACKS = 8, ALL_STOPS = 16;
    private static final int MOST_FALLEN = 256 * 7;

    private final ArrayList<Roll> rolls;
    private final Organ organ;
    private final Stage stage;
    // Each is its ELEMENT times TRACKS, and its TRACK.
    private final int[] fallenOnes;
    private int fallenCount;
    private int latest;

    public RollPlayer() {
        rolls = new ArrayList<>();
        organ = new Organ();
        stage = new Stage();
        fallenOnes = new int[MOST_FALLEN];
    }

    // ---- strips

    public int roll() {
        if (stage.isPlaying()) return busy();
        if (rolls.size() >= MOST_ROLLS) return full();
        rolls.add(new Roll());
        return done(rolls.size() - 1);
    }

    public int strip(int roll, int kind, int number, int n, int ticks) {
        Roll its = rollAt(roll);
        if (its == null || !isIn(kind, 0, Strip.TEMPO) || !isIn(number, 0, Strip.MOST_NUMBER)
                || !isIn(ticks, 0, Strip.MOST_TICKS) || n > Strip.MOST) {
            return bad();
        }
        if (stage.isPlaying()) return busy();
        if (!hasRoom(1, n)) return full();
        if (n < 0) return found(SIZE);
        Strip made = new Strip(kind, number, ticks);
        made.clearTo(n);
        its.list.add(made);
        return done(its.length() - 1);
    }

    public int punch(int roll, int strip, int k, int v) {
        Strip it = stripAt(roll, strip);
        if (it == null) return bad();
        if (stage.isPlaying()) return busy();
        if (it.isLost()) return found(LOST);
        if (!it.hasElement(k)) return found(TORN);
        boolean wasWhole = it.findingNow() == 0;
        it.setElement(k, v);
        if (wasWhole) it.makeHeadAnew();
        return done(1);
    }

    public int seal(int roll, int strip) {
        Strip it = stripAt(roll, strip);
        if (it == null) return bad();
        if (stage.isPlaying()) return busy();
        if (it.isLost()) return found(LOST);
        it.makeHeadAnew();
        return done(it.elements());
    }

    public int lose(int roll, int strip) {
        Strip it = stripAt(roll, strip);
        if (it == null) return bad();
        if (stage.isPlaying()) return busy();
        if (it.isLost()) return done(0);
        it.loseBytes();
        return done(1);
    }

    public int tear(int roll, int strip, int n) {
        Strip it = stripAt(roll, strip);
        if (it == null || n < 0) return bad();
        if (stage.isPlaying()) return busy();
        if (it.isLost()) return found(LOST);
        it.tearTo(n);
        return done(it.elements());
    }

    public int damage(int roll, int strip, int i, int mask) {
        Strip it = stripAt(roll, strip);
        if (it == null) return bad();
        if (stage.isPlaying()) return busy();
        if (it.isLost()) return found(LOST);
        if (!it.hasBytes(i, 1)) return found(TORN);
        it.setNumber(i, 1, it.numberFrom(i, 1) ^ mask);
        return done(it.numberFrom(i, 1) & 255);
    }

    public int byteOf(int roll, int strip, int i) {
        Strip it = stripAt(roll, strip);
        if (it == null) return bad();
        if (it.isLost()) return found(LOST);
        if (!it.hasBytes(i, 1)) return found(TORN);
        return done(it.numberFrom(i, 1) & 255);
    }

    public long head(int roll, int strip, int what) {
        Strip it = stripAt(roll, strip);
        if (it == null || !isIn(what, 0, 3)) return nothing(BAD);
        if (it.isLost()) return nothing(LOST);
        int from = Strip.headPlace(what);
        int bytes = Strip.headPlace(what + 1) - from;
        if (!it.hasBytes(from, bytes)) return nothing(TORN);
        return tellLong(it.numberFrom(from, bytes));
    }

    public long sum(int roll, int strip) {
        Strip it = stripAt(roll, strip);
        if (it == null) return nothing(BAD);
        if (it.isLost()) return nothing(LOST);
        if (!it.hasBytes(0, Strip.SUM_PLACE)) return nothing(TORN);
        return tellLong(it.itsSum());
    }

    public int read(int roll, int strip) {
        Strip it = stripAt(roll, strip);
        if (it == null) return bad();
        int finding = it.findingNow();
        return finding != 0 ? found(finding) : done(it.elements());
    }

    public int whole(int roll) {
        Roll its = rollAt(roll);
        if (its == null) return bad();
        int n = 0;
        for (int i = 0; i < its.length(); i++) {
            if (its.isWholeAt(i)) n++;
        }
        return done(n);
    }

    public int finding(int roll, int k) {
        Roll its = rollAt(roll);
        if (its == null || k < 0) return bad();
        int before = 0;
        for (int i = 0; i < its.length(); i++) {
            if (its.isWholeAt(i)) continue;
            if (before == k) return done(i);
            before++;
        }
        return none();
    }

    public int told(int roll, int strip, int what) {
        Strip it = stripAt(roll, strip);
        if (it == null) return bad();
        switch (what) {
            case 0: return done(it.kind);
            case 1: return done(it.number);
            case 2: return done(it.ticks);
            case 3: return done(it.elements());
            default: return bad();
        }
    }

    // ---- instruments

    public int instrument(int kind) {
        if (!isIn(kind, 0, Organ.COUPLER)) return bad();
        if (stage.isPlaying()) return busy();
        int number = organ.addInstrument(kind);
        return number < 0 ? full() : done(number);
    }

    public int couple(int coupler, int member) {
        Instrument over = organ.instrumentAt(coupler);
        Instrument under = organ.instrumentAt(member);
        if (over == null || under == null || Organ.isWithin(over, under)) return bad();
        if (stage.isPlaying()) return busy();
        if (over.kind != Organ.COUPLER) return found(KIND);
        if (!organ.canHold(over, under)) return full();
        organ.addMember(over, under);
        return done(over.memberCount);
    }

    public int chest(int kind, int n) {
        if (!isIn(kind, 0, Organ.ANY)) return bad();
        if (stage.isPlaying()) return busy();
        if (!organ.hasRoomForChest(n)) return full();
        if (n < 0) return found(SIZE);
        return done(organ.addChest(kind, n));
    }

    public int place(int chest, int i, int instrument) {
        Chest its = organ.chestAt(chest);
        Instrument it = organ.instrumentAt(instrument);
        if (its == null || (it == null && instrument != -1)) return bad();
        if (stage.isPlaying()) return busy();
        if (!its.hasPlace(i)) return found(TORN);
        if (it != null && !its.takes(it)) return found(STORE);
        its.places[i] = it;
        return done(1);
    }

    public int wire(int track, int chest, int i) {
        if (!isIn(track, 0, TRACKS - 1)) return bad();
        if (chest != -1 && organ.chestAt(chest) == null) return bad();
        if (stage.isPlaying()) return busy();
        organ.wiredChest[track] = chest;
        organ.wiredPlace[track] = i;
        return done(1);
    }

    public int spoil(int instrument, int n) {
        Instrument it = organ.instrumentAt(instrument);
        if (it == null || !isIn(n, 0, 1000)) return bad();
        if (stage.isPlaying()) return busy();
        int had = stage.now[Stage.SPOIL + it.number];
        stage.now[Stage.SPOIL + it.number] = n;
        return done(had);
    }

    public int tune(int instrument, int p, int q) {
        Instrument it = organ.instrumentAt(instrument);
        if (it == null || !isIn(p, 0, 1000) || !isIn(q, 0, 1000)) return bad();
        if (q == 0 && p != 0) return bad();
        if (stage.isPlaying()) return busy();
        if (it.kind == Organ.DRUM || it.kind == Organ.COUPLER) return found(KIND);
        it.ratio = q == 0 ? Organ.noNumber() : (double) p / (double) q;
        return done(q == 0 ? 0 : 1);
    }

    public int base(int v) {
        if (!isIn(v, 1, 32000)) return bad();
        if (stage.isPlaying()) return busy();
        organ.base = v / 16.0;
        return done(1);
    }

    public long frequency(int instrument) {
        Instrument it = organ.instrumentAt(instrument);
        if (it == null) return nothing(BAD);
        if (it.kind == Organ.DRUM) return nothing(KIND);
        return tellLong(Organ.bitsOf(organ.frequencyOf(it)));
    }

    public int mute(int instrument) {
        Instrument it = organ.instrumentAt(instrument);
        if (it == null) return bad();
        if (it.kind == Organ.DRUM) return found(KIND);
        return done(Organ.isNumber(organ.frequencyOf(it)) ? 0 : 1);
    }

    public int higher(int one, int other) {
        Instrument first = organ.instrumentAt(one);
        Instrument second = organ.instrumentAt(other);
        if (first == null || second == null) return bad();
        if (first.kind == Organ.DRUM || second.kind == Organ.DRUM) return found(KIND);
        double a = organ.frequencyOf(first);
        double b = organ.frequencyOf(second);
        if (!Organ.isNumber(a) || !Organ.isNumber(b)) return done(0);
        if (a == b) return done(2);
        return done(a > b ? 1 : 3);
    }

    // ---- playing

    public int play(int roll) {
        Roll its = rollAt(roll);
        if (its == null) return bad();
        if (stage.isPlaying()) return busy();
        stage.beginRoll(its);
        return done(its.length());
    }

    public int tick(int n) {
        if (!isIn(n, 0, Stage.MOST_BACK)) return bad();
        if (!stage.isPlaying()) return none();
        int went = 0;
        for (int i = 0; i < n; i++) {
            if (!stage.goOneTick(organ)) break;
            went++;
        }
        return done(went);
    }

    public int halt() {
        if (!stage.isPlaying()) return none();
        int sounded = stage.now[Stage.SOUNDING];
        stage.finishRoll(organ);
        return done(sounded);
    }

    public int back(int n) {
        if (!isIn(n, 0, Stage.MOST_BACK)) return bad();
        if (!stage.isPlaying() || !stage.keepsAgo(n)) return none();
        stage.goBack(n);
        return done(stage.now[Stage.GONE]);
    }

    public int open(int track) {
        if (!isIn(track, 0, TRACKS - 1)) return bad();
        if (stage.now[Stage.HOLE + track] == 0) return none();
        int n = 0;
        for (int k = 0; k < stage.now[Stage.SOUNDING]; k++) {
            if (stage.soundOf(k, Stage.BY_TRACK) == track) n++;
        }
        return done(n);
    }

    public int sounding(int k, int what) {
        if (k < 0 || !isIn(what, 0, 2)) return bad();
        if (k >= stage.now[Stage.SOUNDING]) return none();
        return done(what == 2 ? stage.ageOf(k) : stage.soundOf(k, what));
    }

    public int loud(int k) {
        if (k < 0) return bad();
        if (k >= stage.now[Stage.SOUNDING]) return none();
        Instrument it = organ.instrumentAt(stage.soundOf(k, Stage.WHO));
        if (it == null) return none();
        if (it.kind != Organ.DRUM && !Organ.isNumber(organ.frequencyOf(it))) return done(0);
        int v = stage.now[Stage.LEVEL + stage.soundOf(k, Stage.BY_TRACK)];
        return done(organ.loudOf(it, v, stage.ageOf(k), stage.stopsDrawn()));
    }

    public int level(int track) {
        if (!isIn(track, 0, TRACKS - 1)) return bad();
        return done(stage.now[Stage.LEVEL + track]);
    }

    public int stop(int chest) {
        if (!isIn(chest, 0, ALL_STOPS - 1)) return bad();
        return done(stage.now[Stage.STOP + chest]);
    }

    public int at(int what) {
        if (!isIn(what, 0, 8)) return bad();
        if (what == 8) return done(stage.wentInAll);
        if (what == 7) return done(stage.isPlaying() ? 1 : 0);
        if (what == Stage.AT_HAND && stage.now[Stage.AT_HAND] < 0) return none();
        return done(stage.now[what]);
    }

    public int times(int instrument, int what) {
        Instrument it = organ.instrumentAt(instrument);
        if (it == null || !isIn(what, 0, 1)) return bad();
        int from = what == 0 ? Stage.OPENED : Stage.ENDED;
        return done(stage.now[from + it.number]);
    }

    public int event(int k, int what) {
        if (k < 0 || !isIn(what, 0, 3)) return bad();
        if (!stage.keepsEvent(k)) return none();
        return done(stage.eventOf(k, what));
    }

    // ---- editing

    public int cut(int roll, int k) {
        Roll its = rollAt(roll);
        if (its == null || !isIn(k, 0, its.length())) return bad();
        if (stage.isPlaying()) return busy();
        if (rolls.size() >= MOST_ROLLS) return full();
        Roll made = new Roll();
        its.moveRest(k, made);
        rolls.add(made);
        return done(rolls.size() - 1);
    }

    public int join(int roll, int other) {
        Roll its = rollAt(roll);
        Roll from = rollAt(other);
        if (its == null || from == null || roll == other) return bad();
        if (stage.isPlaying()) return busy();
        if (!hasRoom(from.length(), from.elements(0, from.length()))) return full();
        its.insertCopies(from, 0, from.length(), its.length());
        return done(its.length());
    }

    public int repeat(int roll, int i, int n) {
        Roll its = rollAt(roll);
        if (its == null || !isIn(n, 0, MOST_AT_ONCE) || !isIn(i, 0, its.length() - n)) return bad();
        if (stage.isPlaying()) return busy();
        if (!hasRoom(n, its.elements(i, n))) return full();
        its.insertCopies(its, i, n, i + n);
        return done(its.length());
    }

    public int move(int roll, int i, int n, int to, int j) {
        Roll from = rollAt(roll);
        Roll into = rollAt(to);
        if (from == null || into == null || !isIn(n, 0, MOST_AT_ONCE)) return bad();
        if (stage.isPlaying()) return busy();
        for (int k = 0; k < n; k++) {
            Strip one = from.stripBeyond(i, k);
            Strip other = into.stripBeyond(j, k);
            int why = hindrance(one, other);
            if (why != 0) return endedBy(why, k);
            if (one != null && other != null) other.takeBytesOf(one);
        }
        return done(n);
    }

    public int copy(int roll, int strip, int from, int n, int to, int other, int at) {
        Strip one = stripAt(roll, strip);
        Strip second = stripAt(to, other);
        if (one == null || second == null) return bad();
        if (stage.isPlaying()) return busy();
        if (one.isLost() || second.isLost()) return found(LOST);
        if (one.kind != second.kind) return found(KIND);
        if (!one.hasElements(from, n) || !second.hasElements(at, n)) return found(SPAN);
        second.takeElementsOf(one, from, n, at);
        return done(n);
    }

    public int transpose(int roll, int strip, int n) {
        Strip it = stripAt(roll, strip);
        if (it == null || !isIn(n, -7, 7)) return bad();
        if (stage.isPlaying()) return busy();
        if (it.kind != Strip.HOLES) return found(KIND);
        int finding = it.findingNow();
        if (finding != 0) return found(finding);
        fallenCount = 0;
        for (int k = 0; k < it.elements(); k++) {
            int e = it.elementAt(k) & 255;
            noteFallen(k, e, n);
            it.setElement(k, n < 0 ? e >> -n : e << n);
        }
        it.makeHeadAnew();
        return done(fallenCount);
    }

    public int fallen(int k, int what) {
        if (k < 0 || !isIn(what, 0, 1)) return bad();
        if (k >= fallenCount) return none();
        return done(what == 0 ? fallenOnes[k] / TRACKS : fallenOnes[k] % TRACKS);
    }

    public int mend(int roll, int strip, int other) {
        Strip it = stripAt(roll, strip);
        Roll from = rollAt(other);
        if (it == null || from == null) return bad();
        if (stage.isPlaying()) return busy();
        if (it.findingNow() == 0) return done(strip);
        int place = from.firstWholeLike(it);
        Strip source = from.stripAt(place);
        if (source == null) return none();
        if (!hasRoom(0, source.elements() - it.elements())) return full();
        it.takeBytesOf(source);
        return done(place);
    }

    public int equal(int roll, int other) {
        Roll one = rollAt(roll);
        Roll second = rollAt(other);
        if (one == null || second == null) return bad();
        return done(one.isLike(second) ? 1 : 0);
    }

    public long digest(int roll) {
        Roll its = rollAt(roll);
        if (its == null) return nothing(BAD);
        return tellLong(its.digestNow());
    }

    // ---- what is told

    public int count(int what) {
        switch (what) {
            case 0: return done(rolls.size());
            case 1: return done(organ.instrumentCount);
            case 2: return done(organ.chestCount);
            case 3: return done(stage.now[Stage.EVENTS]);
            case 4: return done(stage.now[Stage.SOUNDING]);
            case 5: return done(fallenCount);
            case 6: return done(elementsInAll());
            case 7: return done(organ.placeCount);
            default: return bad();
        }
    }

    public int strips(int roll) {
        Roll its = rollAt(roll);
        return its == null ? bad() : done(its.length());
    }

    public int members(int coupler) {
        Instrument it = organ.instrumentAt(coupler);
        if (it == null) return bad();
        if (it.kind != Organ.COUPLER) return found(KIND);
        return done(it.memberCount);
    }

    public int trace(int b) {
        if (!isIn(b, 0, Organ.BODIES - 1)) return bad();
        return done(organ.bodies[b]);
    }

    public int status() {
        return latest;
    }

    // ---- how an act answers

    private int done(int answer) {
        latest = 0;
        return answer;
    }

    private int bad() {
        latest = BAD;
        return BAD;
    }

    private int busy() {
        latest = BUSY;
        return BUSY;
    }

    private int full() {
        latest = FULL;
        return FULL;
    }

    private int none() {
        latest = 0;
        return NONE;
    }

    private int found(int finding) {
        latest = finding;
        return -10 - finding;
    }

    private int endedBy(int why, int answer) {
        latest = why;
        return answer;
    }

    private long tellLong(long answer) {
        latest = 0;
        return answer;
    }

    private long nothing(int why) {
        latest = why;
        return 0L;
    }

    // ---- what acts ask for

    private static boolean isIn(int v, int least, int most) {
        return v >= least && v <= most;
    }

    private Roll rollAt(int roll) {
        return isIn(roll, 0, rolls.size() - 1) ? rolls.get(roll) : null;
    }

    private Strip stripAt(int roll, int strip) {
        Roll its = rollAt(roll);
        return its == null ? null : its.stripAt(strip);
    }

    private int stripsInAll() {
        int n = 0;
        for (int i = 0; i < rolls.size(); i++) {
            n += rolls.get(i).length();
        }
        return n;
    }

    private int elementsInAll() {
        int n = 0;
        for (int i = 0; i < rolls.size(); i++) {
            n += rolls.get(i).elements(0, rolls.get(i).length());
        }
        return n;
    }

    private boolean hasRoom(int moreStrips, int moreElements) {
        return moreStrips <= MOST_STRIPS - stripsInAll()
                && moreElements <= MOST_ELEMENTS - elementsInAll();
    }

    /** Why the BYTES of one STRIP cannot come to another: a FINDING or FULL; 0: they can. */
    private int hindrance(Strip one, Strip other) {
        if (one == null || other == null) return TORN;
        if (one.isLost() || other.isLost()) return LOST;
        if (one.kind != other.kind) return KIND;
        return hasRoom(0, one.elements() - other.elements()) ? 0 : FULL;
    }

    private void noteFallen(int element, int bits, int n) {
        for (int track = 0; track < TRACKS; track++) {
            boolean falls = !isIn(track + n, 0, TRACKS - 1);
            if (falls && (bits >> track & 1) == 1 && fallenCount < MOST_FALLEN) {
                fallenOnes[fallenCount] = element * TRACKS + track;
                fallenCount++;
            }
        }
    }

    /** A STRIP: what THE LIST tells of it, and its BYTES. */
    private static final class Strip {
        static final int HOLES = 0, LEVELS = 1, STOPS = 2, TEMPO = 3;
        static final int MOST = 256, MOST_NUMBER = 30000, MOST_TICKS = 256;
        static final int NUMBER_PLACE = 1, LENGTH_PLACE = 3, SUM_PLACE = 5, HEAD = 9;

        final int kind, number, ticks;
        // An ELEMENT has 1 << widthBits bytes.
        final int widthBits;
        // As long as a STRIP of its KIND can be: whatever comes to it, no other is made.
        final byte[] bytes;
        // How many of these bytes it has; below 0: it is LOST.
        int size;

        Strip(int kind, int number, int ticks) {
            this.kind = kind;
            this.number = number;
            this.ticks = ticks;
            this.widthBits = kind == TEMPO ? 2 : kind == HOLES ? 0 : 1;
            this.bytes = new byte[HEAD + (MOST << widthBits)];
        }

        static int headPlace(int what) {
            switch (what) {
                case 0: return 0;
                case 1: return NUMBER_PLACE;
                case 2: return LENGTH_PLACE;
                case 3: return SUM_PLACE;
                default: return HEAD;
            }
        }

        /** Only for a new one, whose bytes are all 0 yet. */
        void clearTo(int n) {
            size = HEAD + (Math.max(0, Math.min(n, MOST)) << widthBits);
            makeHeadAnew();
        }

        boolean isLost() {
            return size < 0;
        }

        void loseBytes() {
            size = -1;
        }

        int elements() {
            return size < HEAD ? 0 : (size - HEAD) >> widthBits;
        }

        boolean hasElement(int k) {
            return k >= 0 && k < elements();
        }

        boolean hasElements(int from, int n) {
            return n >= 0 && from >= 0 && n <= elements() && from <= elements() - n;
        }

        boolean hasBytes(int i, int n) {
            return i >= 0 && n > 0 && n <= size && i <= size - n;
        }

        /** What n bytes from i on tell, the highest first, with sign. */
        int numberFrom(int i, int n) {
            if (!hasBytes(i, n)) return 0;
            int v = bytes[i];
            for (int j = 1; j < n; j++) {
                v = (v << 8) | (bytes[i + j] & 255);
            }
            return v;
        }

        void setNumber(int i, int n, int v) {
            if (!hasBytes(i, n)) return;
            for (int j = 0; j < n; j++) {
                bytes[i + j] = (byte) (v >> (8 * (n - 1 - j)));
            }
        }

        int elementAt(int k) {
            if (!hasElement(k)) return 0;
            int v = numberFrom(HEAD + (k << widthBits), 1 << widthBits);
            return kind == STOPS ? v & 65535 : v;
        }

        void setElement(int k, int v) {
            if (hasElement(k)) setNumber(HEAD + (k << widthBits), 1 << widthBits, v);
        }

        void tearTo(int n) {
            if (n >= size) return;
            size = n <= HEAD ? n : HEAD + ((n - HEAD) >> widthBits << widthBits);
        }

        int itsSum() {
            int s = 1;
            for (int i = 0; i < SUM_PLACE && i < size; i++) {
                s = s * 31 + bytes[i];
            }
            for (int i = HEAD; i < size; i++) {
                s = s * 31 + bytes[i];
            }
            return s;
        }

        /** SEALED. */
        void makeHeadAnew() {
            size = Math.max(size, HEAD);
            setNumber(0, NUMBER_PLACE, kind);
            setNumber(NUMBER_PLACE, LENGTH_PLACE - NUMBER_PLACE, number);
            setNumber(LENGTH_PLACE, SUM_PLACE - LENGTH_PLACE, elements());
            setNumber(SUM_PLACE, HEAD - SUM_PLACE, itsSum());
        }

        /** READ: its FINDING; 0: it is WHOLE. */
        int findingNow() {
            if (isLost()) return LOST;
            if (size < HEAD) return TORN;
            if (numberFrom(0, NUMBER_PLACE) != kind) return KIND;
            int length = numberFrom(LENGTH_PLACE, SUM_PLACE - LENGTH_PLACE);
            if (length > elements()) return LONG;
            if (length < 0) return SIZE;
            if (length < elements()) return SHORT;
            return numberFrom(SUM_PLACE, HEAD - SUM_PLACE) == itsSum() ? 0 : SUM;
        }

        void takeBytesOf(Strip other) {
            if (other.size > bytes.length) return;
            size = other.size;
            if (size > 0) System.arraycopy(other.bytes, 0, bytes, 0, size);
        }

        void takeElementsOf(Strip other, int from, int n, int at) {
            if (other.kind != kind || !other.hasElements(from, n) || !hasElements(at, n)) return;
            System.arraycopy(other.bytes, HEAD + (from << widthBits),
                    bytes, HEAD + (at << widthBits), n << widthBits);
        }

        boolean isLike(Strip other) {
            if (kind != other.kind || number != other.number || ticks != other.ticks) return false;
            if (size != other.size) return false;
            for (int i = 0; i < size; i++) {
                if (bytes[i] != other.bytes[i]) return false;
            }
            return true;
        }

        int digestFrom(int before) {
            int s = ((before * 31 + kind) * 31 + number) * 31 + ticks;
            for (int i = 0; i < size; i++) {
                s = s * 31 + bytes[i];
            }
            return s;
        }
    }

    /** A ROLL: its STRIPS in order. */
    private static final class Roll {
        final ArrayList<Strip> list;

        Roll() {
            list = new ArrayList<>();
        }

        int length() {
            return list.size();
        }

        Strip stripAt(int i) {
            return i >= 0 && i < list.size() ? list.get(i) : null;
        }

        /** The k-th STRIP from any number on: their sum may be beyond an int. */
        Strip stripBeyond(int i, int k) {
            long place = (long) i + k;
            return place >= 0 && place < list.size() ? list.get((int) place) : null;
        }

        boolean isWholeAt(int i) {
            Strip it = stripAt(i);
            return it != null && it.findingNow() == 0;
        }

        int elements(int from, int n) {
            int sum = 0;
            for (int i = from; i < from + n; i++) {
                Strip it = stripAt(i);
                if (it != null) sum += it.elements();
            }
            return sum;
        }

        void moveRest(int k, Roll to) {
            for (int i = k; i < list.size(); i++) {
                to.list.add(list.get(i));
            }
            for (int i = list.size() - 1; i >= k; i--) {
                list.remove(i);
            }
        }

        /** The copies' place is never ahead of what is copied, so that this stays where it is. */
        void insertCopies(Roll other, int from, int n, int at) {
            for (int k = 0; k < n; k++) {
                Strip one = other.stripAt(from + k);
                if (one == null || at + k > list.size()) return;
                Strip made = new Strip(one.kind, one.number, one.ticks);
                made.takeBytesOf(one);
                list.add(at + k, made);
            }
        }

        /** The place of the first WHOLE one of the same KIND and NUMBER; below 0: there is none. */
        int firstWholeLike(Strip wanted) {
            for (int i = 0; i < list.size(); i++) {
                Strip it = list.get(i);
                if (it.kind == wanted.kind && it.number == wanted.number && it.findingNow() == 0) return i;
            }
            return -1;
        }

        boolean isLike(Roll other) {
            if (list.size() != other.list.size()) return false;
            for (int i = 0; i < list.size(); i++) {
                if (!list.get(i).isLike(other.list.get(i))) return false;
            }
            return true;
        }

        int digestNow() {
            int s = 7;
            for (int i = 0; i < list.size(); i++) {
                s = list.get(i).digestFrom(s);
            }
            return s;
        }
    }

    /** An INSTRUMENT; Organ does its BODIES, by its KIND. */
    private static final class Instrument {
        final int number, kind;
        double ratio;
        int size;
        final Instrument[] members;
        int memberCount;

        Instrument(int number, int kind) {
            this.number = number;
            this.kind = kind;
            this.ratio = 1.0;
            this.size = 1;
            this.members = new Instrument[kind == Organ.COUPLER ? Organ.MOST_MEMBERS : 0];
        }
    }

    /** A CHEST; an empty PLACE is null. */
    private static final class Chest {
        final int kind;
        final Instrument[] places;

        Chest(int kind, int n) {
            this.kind = kind;
            this.places = new Instrument[Math.max(0, Math.min(n, Organ.MOST_PLACES))];
        }

        boolean hasPlace(int i) {
            return i >= 0 && i < places.length;
        }

        boolean takes(Instrument it) {
            switch (kind) {
                case Organ.ANY: return true;
                case Organ.PIPE: return it.kind <= Organ.BASS;
                case Organ.REED: return it.kind == Organ.REED || it.kind == Organ.BASS;
                case Organ.PLUCKED: return it.kind == Organ.PLUCKED || it.kind == Organ.BELL;
                default: return it.kind == kind;
            }
        }
    }

    /** All INSTRUMENTS and CHESTS, the WIRES, and what INSTRUMENTS do. */
    private static final class Organ {
        static final int PIPE = 0, REED = 1, BASS = 2, DRUM = 3, PLUCKED = 4, BELL = 5, COUPLER = 6, ANY = 7;
        static final int MOST_INSTRUMENTS = 60, MOST_CHESTS = 16, MOST_PLACES = 200;
        static final int MOST_MEMBERS = 8, MOST_SIZE = 40;
        static final int BODIES = 17;
        static final int LOUD_PIPE = 0, LOUD_REED = 1, LOUD_DRUM = 2, LOUD_PLUCKED = 3, LOUD_BELL = 4,
                LOUD_COUPLER = 5, AIR_PIPE = 6, AIR_BASS = 7, FREQUENCY_PIPE = 8, FREQUENCY_REED = 9,
                FREQUENCY_BASS = 10, FREQUENCY_PLUCKED = 11, FREQUENCY_BELL = 12, FREQUENCY_COUPLER = 13,
                OPEN_ANY = 14, OPEN_COUPLER = 15, END_ANY = 16;

        final Instrument[] instruments;
        int instrumentCount;
        final Chest[] chests;
        int chestCount, placeCount;
        // By TRACKS; a CHEST below 0: it has no WIRE.
        final int[] wiredChest, wiredPlace;
        final int[] bodies;
        double base;

        Organ() {
            instruments = new Instrument[MOST_INSTRUMENTS];
            chests = new Chest[MOST_CHESTS];
            wiredChest = new int[] { -1, -1, -1, -1, -1, -1, -1, -1 };
            wiredPlace = new int[TRACKS];
            bodies = new int[BODIES];
            base = 440.0;
        }

        Instrument instrumentAt(int number) {
            return number >= 0 && number < instrumentCount ? instruments[number] : null;
        }

        Chest chestAt(int number) {
            return number >= 0 && number < chestCount ? chests[number] : null;
        }

        int addInstrument(int kind) {
            if (instrumentCount >= MOST_INSTRUMENTS) return -1;
            instruments[instrumentCount] = new Instrument(instrumentCount, kind);
            instrumentCount++;
            return instrumentCount - 1;
        }

        boolean hasRoomForChest(int n) {
            return chestCount < MOST_CHESTS && n <= MOST_PLACES - placeCount;
        }

        int addChest(int kind, int n) {
            if (!hasRoomForChest(n)) return -1;
            chests[chestCount] = new Chest(kind, n);
            chestCount++;
            placeCount += n;
            return chestCount - 1;
        }

        /** Whether one is another one, or its MEMBER, or a MEMBER's, and so on. */
        static boolean isWithin(Instrument sought, Instrument it) {
            return timesWithin(sought, it, 1) > 0;
        }

        private static int timesWithin(Instrument sought, Instrument it, int depth) {
            if (it == null || depth > MOST_SIZE) return 0;
            if (it.number == sought.number) return 1;
            int n = 0;
            for (int i = 0; i < it.memberCount; i++) {
                n += timesWithin(sought, it.members[i], depth + 1);
            }
            return n;
        }

        boolean canHold(Instrument coupler, Instrument member) {
            if (coupler.memberCount >= coupler.members.length) return false;
            for (int i = 0; i < instrumentCount; i++) {
                Instrument it = instruments[i];
                if (it != null && it.size + timesWithin(coupler, it, 1) * member.size > MOST_SIZE) return false;
            }
            return true;
        }

        void addMember(Instrument coupler, Instrument member) {
            if (!canHold(coupler, member)) return;
            for (int i = 0; i < instrumentCount; i++) {
                Instrument it = instruments[i];
                if (it != null) it.size += timesWithin(coupler, it, 1) * member.size;
            }
            coupler.members[coupler.memberCount] = member;
            coupler.memberCount++;
        }

        // No FREQUENCY is below 0, so that a number below 0 stands for none.
        static double noNumber() {
            return -1.0;
        }

        static boolean isNumber(double f) {
            return f >= 0.0;
        }

        /** As Double.doubleToLongBits tells it, which the program may not call. */
        static long bitsOf(double f) {
            if (!isNumber(f)) return 0x7ff8000000000000L;
            if (f == 0.0) return 0L;
            double m = f;
            long exponent = 1023;
            for (int i = 0; i < 1100 && m >= 2.0; i++) {
                m = m / 2.0;
                exponent++;
            }
            for (int i = 0; i < 1100 && m < 1.0; i++) {
                m = m * 2.0;
                exponent--;
            }
            return (exponent << 52) + (long) ((m - 1.0) * 4503599627370496.0);
        }

        private static double floorOf(double f) {
            return (double) (long) f;
        }

        /** To the nearest whole number, of two as near to the even one. */
        private static double roundOf(double f) {
            long below = (long) f;
            double rest = f - (double) below;
            boolean up = rest > 0.5 || (rest == 0.5 && below % 2 == 1);
            return (double) (up ? below + 1 : below);
        }

        double frequencyOf(Instrument it) {
            return frequencyAt(it, 1);
        }

        private double frequencyAt(Instrument it, int depth) {
            if (it == null || depth > MOST_SIZE) return noNumber();
            switch (it.kind) {
                case PIPE: return pipeFrequency(it);
                case REED: return reedFrequency(it);
                case BASS: return bassFrequency(it);
                case PLUCKED: return pluckedFrequency(it);
                case BELL: return bellFrequency(it);
                case COUPLER: return couplerFrequency(it, depth);
                default: return noNumber();
            }
        }

        private double pipeFrequency(Instrument it) {
            bodies[FREQUENCY_PIPE]++;
            return isNumber(it.ratio) ? base * it.ratio : noNumber();
        }

        private double reedFrequency(Instrument it) {
            bodies[FREQUENCY_REED]++;
            double f = pipeFrequency(it);
            return isNumber(f) ? f / 2.0 : f;
        }

        private double bassFrequency(Instrument it) {
            bodies[FREQUENCY_BASS]++;
            double f = reedFrequency(it);
            return isNumber(f) ? floorOf(f * 4.0) / 4.0 : f;
        }

        private double pluckedFrequency(Instrument it) {
            bodies[FREQUENCY_PLUCKED]++;
            return isNumber(it.ratio) ? roundOf((base * it.ratio) * 8.0) / 8.0 : noNumber();
        }

        private double bellFrequency(Instrument it) {
            bodies[FREQUENCY_BELL]++;
            double f = pluckedFrequency(it);
            return isNumber(f) ? floorOf(f) + 0.25 : f;
        }

        private double couplerFrequency(Instrument it, int depth) {
            bodies[FREQUENCY_COUPLER]++;
            double greatest = noNumber();
            for (int i = 0; i < it.memberCount; i++) {
                double f = frequencyAt(it.members[i], depth + 1);
                if (f > greatest) greatest = f;
            }
            return greatest;
        }

        /** LOUD, by a level, an age, and how many STOPS are drawn. */
        int loudOf(Instrument it, int v, int age, int stops) {
            switch (it.kind) {
                case PIPE: return pipeLoud(it, v, stops);
                case REED:
                case BASS: return reedLoud(it, v, stops);
                case DRUM: return drumLoud(v, age);
                case PLUCKED: return pluckedLoud(v, age);
                case BELL: return bellLoud(v, age);
                default:
                    bodies[LOUD_COUPLER]++;
                    return 0;
            }
        }

        private int pipeLoud(Instrument it, int v, int stops) {
            bodies[LOUD_PIPE]++;
            return v + (it.kind == BASS ? bassAir(stops) : pipeAir(stops));
        }

        private int reedLoud(Instrument it, int v, int stops) {
            bodies[LOUD_REED]++;
            return pipeLoud(it, v, stops) + 7;
        }

        private int drumLoud(int v, int age) {
            bodies[LOUD_DRUM]++;
            return age == 0 ? 2 * v : 0;
        }

        private int pluckedLoud(int v, int age) {
            bodies[LOUD_PLUCKED]++;
            return Math.max(0, v - 5 * age);
        }

        private int bellLoud(int v, int age) {
            bodies[LOUD_BELL]++;
            return pluckedLoud(v, age / 4) + 1;
        }

        private int pipeAir(int stops) {
            bodies[AIR_PIPE]++;
            return 3 + stops;
        }

        private int bassAir(int stops) {
            bodies[AIR_BASS]++;
            return 2 * pipeAir(stops);
        }
    }

    /** How PLAYING was: the row of a Stage then. */
    private static final class Moment {
        final int[] row;

        Moment(int length) {
            row = new int[Math.max(0, length)];
        }
    }

    /** PLAYING: all that back() gives back stands in one row, the latest such rows are kept. */
    private static final class Stage {
        // The first seven as at() numbers them.
        static final int TEMPO = 0, BEAT = 1, PHASE = 2, GONE = 3, AT_HAND = 4, OVER = 5, WHOLE = 6;
        // TEMPO goes FROM .. TO in STEPS, of which STEP are done.
        static final int FROM = 7, TO = 8, STEPS = 9, STEP = 10;
        static final int EVENTS = 11, SOUNDING = 12;
        // By TRACKS, CHESTS, INSTRUMENTS.
        static final int HOLE = 13, LEVEL = HOLE + TRACKS, STOP = LEVEL + TRACKS, SPOIL = STOP + ALL_STOPS,
                OPENED = SPOIL + Organ.MOST_INSTRUMENTS, ENDED = OPENED + Organ.MOST_INSTRUMENTS;
        // THOSE THAT SOUND are last in the row, so that only as many as there are need be kept.
        static final int SOUNDS = ENDED + Organ.MOST_INSTRUMENTS;
        static final int WHO = 0, BY_TRACK = 1, SINCE = 2, A_SOUND = 3;
        // Of each TRACK one INSTRUMENT and what comes by it.
        static final int MOST_SOUNDS = TRACKS * Organ.MOST_SIZE;
        static final int A_MOMENT = SOUNDS + A_SOUND * MOST_SOUNDS;

        static final int MOST_BACK = 500, KEPT = MOST_BACK + 1, MOST_TICKS = 20000, MOST_EVENTS = 1500, AN_EVENT = 4;
        static final int BEGAN = 0, WAS_OPENED = 1, WAS_ENDED = 2, FAILED = 3;
        static final int ANY_TRACK = -1;

        final int[] now;
        // A ring of which the latest one is keptLast; they are made when first needed.
        final Moment[] kept;
        int keptLast, keptCount;
        final int[] events;
        // null: nothing is PLAYED.
        Roll played;
        int wentInAll;

        Stage() {
            now = new int[A_MOMENT];
            now[AT_HAND] = -1;
            kept = new Moment[KEPT];
            events = new int[AN_EVENT * MOST_EVENTS];
        }

        boolean isPlaying() {
            return played != null;
        }

        void beginRoll(Roll roll) {
            for (int i = 0; i < SPOIL; i++) {
                now[i] = 0;
            }
            for (int i = OPENED; i < SOUNDS; i++) {
                now[i] = 0;
            }
            for (int i = LEVEL; i < LEVEL + TRACKS; i++) {
                now[i] = 1000;
            }
            for (int i = STOP; i < STOP + ALL_STOPS; i++) {
                now[i] = 1;
            }
            now[TEMPO] = 24;
            now[AT_HAND] = -1;
            played = roll;
            keptCount = 0;
            keepMoment();
        }

        /** THE ROLL IS OVER, or is halted. */
        void finishRoll(Organ organ) {
            silence(organ);
            played = null;
        }

        private void silence(Organ organ) {
            endLatest(0, ANY_TRACK, organ);
            for (int track = 0; track < TRACKS; track++) {
                now[HOLE + track] = 0;
            }
        }

        /** Whether a TICK went. */
        boolean goOneTick(Organ organ) {
            if (played == null || wentInAll >= MOST_TICKS) return false;
            Strip strip = played.stripAt(now[AT_HAND]);
            for (int place = now[AT_HAND] + 1; place <= played.length(); place++) {
                if (strip != null && now[OVER] < strip.ticks) break;
                strip = played.stripAt(place);
                if (strip == null) break;
                beginStrip(strip, place, organ);
                for (int k = 0; strip.ticks == 0 && k < strip.elements(); k++) {
                    doElement(strip, k, organ);
                }
            }
            if (strip == null) {
                finishRoll(organ);
                return false;
            }
            doElement(strip, now[OVER], organ);
            now[OVER]++;
            goOnTempo();
            now[GONE]++;
            wentInAll++;
            keepMoment();
            return true;
        }

        private void beginStrip(Strip strip, int place, Organ organ) {
            int finding = strip.findingNow();
            now[AT_HAND] = place;
            now[OVER] = 0;
            now[WHOLE] = finding == 0 ? 1 : 0;
            addEvent(BEGAN, place, finding);
            if (finding != 0) silence(organ);
        }

        private void doElement(Strip strip, int k, Organ organ) {
            if (now[WHOLE] == 0 || !strip.hasElement(k)) return;
            int e = strip.elementAt(k);
            switch (strip.kind) {
                case Strip.HOLES:
                    doHoles(e, organ);
                    break;
                case Strip.LEVELS:
                    doLevels(e);
                    break;
                case Strip.STOPS:
                    doStops(e);
                    break;
                default:
                    doTempo(e);
            }
        }

        private void doHoles(int e, Organ organ) {
            for (int track = 0; track < TRACKS; track++) {
                int hole = e >> track & 1;
                if (hole == now[HOLE + track]) continue;
                now[HOLE + track] = hole;
                if (hole == 0) {
                    endLatest(0, track, organ);
                } else {
                    int finding = openByHole(track, organ);
                    if (finding != 0) addEvent(FAILED, track, finding);
                }
            }
        }

        private void doLevels(int e) {
            for (int track = 0; track < TRACKS; track++) {
                if (e < 0 || (e >> 12 & 7) == track) now[LEVEL + track] = e & 4095;
            }
        }

        private void doStops(int e) {
            if (e >= 'A' && e <= 'P') now[STOP + e - 'A'] = 1;
            if (e >= 'a' && e <= 'p') now[STOP + e - 'a'] = 0;
        }

        private void doTempo(int v) {
            int to = v & 65535;
            if (to == 0) return;
            now[FROM] = now[TEMPO];
            now[TO] = to;
            now[STEPS] = v >>> 16;
            now[STEP] = 0;
            if (now[STEPS] == 0) now[TEMPO] = to;
        }

        private void goOnTempo() {
            long steps = now[STEPS];
            if (steps > 0 && now[STEP] < steps) {
                now[STEP]++;
                // The way times the steps goes beyond an int.
                long way = (long) (now[TO] - now[FROM]) * now[STEP] * 2 + steps;
                now[TEMPO] = now[FROM] + (int) Math.floorDiv(way, 2 * steps);
            }
            now[PHASE]++;
            if (now[PHASE] >= now[TEMPO]) {
                now[PHASE] = 0;
                now[BEAT]++;
            }
        }

        /** What the opening of a HOLE meets: a FINDING, or 0. */
        private int openByHole(int track, Organ organ) {
            int number = organ.wiredChest[track];
            Chest chest = organ.chestAt(number);
            if (chest == null || now[STOP + number] == 0) return 0;
            int i = organ.wiredPlace[track];
            if (!chest.hasPlace(i)) return TORN;
            Instrument it = chest.places[i];
            return it == null ? LOST : openOne(it, track, 1, organ);
        }

        private int openOne(Instrument it, int track, int depth, Organ organ) {
            organ.bodies[Organ.OPEN_ANY]++;
            if (it.kind == Organ.COUPLER) organ.bodies[Organ.OPEN_COUPLER]++;
            if (spoilsNow(it.number)) return SPOILT;
            int first = now[SOUNDING];
            // Neither is met: the SIZES that couple() lets through keep below them.
            if (depth > Organ.MOST_SIZE || first >= MOST_SOUNDS) return SPOILT;
            addSound(it.number, track);
            for (int i = 0; i < it.memberCount; i++) {
                int finding = it.members[i] == null ? 0 : openOne(it.members[i], track, depth + 1, organ);
                if (finding != 0) {
                    endLatest(first, ANY_TRACK, organ);
                    return finding;
                }
            }
            return 0;
        }

        private boolean spoilsNow(int number) {
            if (now[SPOIL + number] == 0) return false;
            now[SPOIL + number]--;
            return now[SPOIL + number] == 0;
        }

        private void addSound(int number, int track) {
            int place = SOUNDS + A_SOUND * now[SOUNDING];
            now[place + WHO] = number;
            now[place + BY_TRACK] = track;
            now[place + SINCE] = now[GONE];
            now[SOUNDING]++;
            now[OPENED + number]++;
            addEvent(WAS_OPENED, number, track);
        }

        /** ENDS those from first on that came by a TRACK (or by any), the latest first. */
        private void endLatest(int first, int track, Organ organ) {
            for (int k = now[SOUNDING] - 1; k >= first; k--) {
                int place = SOUNDS + A_SOUND * k;
                if (track != ANY_TRACK && now[place + BY_TRACK] != track) continue;
                organ.bodies[Organ.END_ANY]++;
                now[ENDED + now[place + WHO]]++;
                addEvent(WAS_ENDED, now[place + WHO], now[place + BY_TRACK]);
                now[SOUNDING]--;
                System.arraycopy(now, place + A_SOUND, now, place, A_SOUND * (now[SOUNDING] - k));
            }
        }

        private void addEvent(int sort, int of, int rest) {
            if (now[EVENTS] < MOST_EVENTS) {
                int place = AN_EVENT * now[EVENTS];
                events[place] = sort;
                events[place + 1] = now[GONE];
                events[place + 2] = of;
                events[place + 3] = rest;
            }
            now[EVENTS]++;
        }

        boolean keepsEvent(int k) {
            return k >= 0 && k < now[EVENTS] && k < MOST_EVENTS;
        }

        int eventOf(int k, int what) {
            if (!keepsEvent(k) || what < 0 || what >= AN_EVENT) return 0;
            return events[AN_EVENT * k + what];
        }

        int soundOf(int k, int what) {
            if (k < 0 || k >= now[SOUNDING] || what < 0 || what >= A_SOUND) return 0;
            return now[SOUNDS + A_SOUND * k + what];
        }

        int ageOf(int k) {
            return now[GONE] - soundOf(k, SINCE);
        }

        int stopsDrawn() {
            int n = 0;
            for (int i = 0; i < ALL_STOPS; i++) {
                n += now[STOP + i];
            }
            return n;
        }

        private void keepMoment() {
            keptLast = (keptLast + 1) % KEPT;
            keptCount = Math.min(keptCount + 1, KEPT);
            if (kept[keptLast] == null) kept[keptLast] = new Moment(A_MOMENT);
            System.arraycopy(now, 0, kept[keptLast].row, 0, SOUNDS + A_SOUND * now[SOUNDING]);
        }

        boolean keepsAgo(int n) {
            return n >= 0 && n < keptCount;
        }

        void goBack(int n) {
            if (!keepsAgo(n)) return;
            int place = Math.floorMod(keptLast - n, KEPT);
            Moment then = kept[place];
            if (then == null) return;
            keptLast = place;
            keptCount -= n;
            System.arraycopy(then.row, 0, now, 0, SOUNDS + A_SOUND * then.row[SOUNDING]);
        }
    }
}
