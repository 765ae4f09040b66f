import java.util.NoSuchElementException;

/** A store that keeps long values aside in a log of segments; ../shared/DOC.md says what it promises. */
public final class AsideStore {
    public static final int NONE = -1;

    private static final int KEYS = 64;
    private static final int SEGMENTS = 12;
    /** Bytes of a RECORD ahead of its VALUE. */
    private static final int HEAD = 4;
    /** The greatest ROOM by the least SIZE: no SEGMENT ever has more. */
    private static final int MOST_RECORDS = 50;
    /** The TABLE, four RUNS, and the one too many that a FLUSH makes just ahead of its MERGE. */
    private static final int LEVELS = 6;
    private static final int MOST_ROWS = 30;
    private static final int REMEMBERED = 8;
    private static final int MOST_BYTES = 400;
    private static final int MOST_ACTS = 14;
    private static final int MOST_HOLDS = 99;
    private static final int NO_COLLECTION = -1000;

    private static final int FREE = 0;
    private static final int OPEN = 1;
    private static final int SEALED = 2;

    private static final int ROW_FLUSH = 0;
    private static final int ROW_MERGE = 1;
    private static final int ROW_FREE = 2;
    private static final int ROW_CRASH = 3;
    private static final int ROW_SEALED = 4;

    private static final int NO_ROOM = 1;
    private static final int NO_VALUE = 2;
    private static final int ONE_IS_ON = 3;
    private static final int NOT_SEALED = 4;
    private static final int NONE_IS_ON = 5;

    private static final int STORE = 0;
    private static final int PUT = 1;
    private static final int DROP = 2;
    private static final int SYNC = 3;
    private static final int FLUSH = 4;
    private static final int CRASH = 5;
    private static final int PICK = 6;
    private static final int STEP = 7;
    private static final int QUIT = 8;
    private static final int MERGE = 9;
    private static final int KINDS_OF_ACTS = 10;

    /** How many numbers stand behind each ACT's word. */
    private static final int[] WANTED = {4, 3, 1, 0, 0, 0, 1, 1, 0, 0};
    /** The bounds of those numbers, MOST_NUMBERS to each ACT. */
    private static final int MOST_NUMBERS = 4;
    private static final int[] LEAST = {
        50, 0, 2, 1,  0, 1, 0, 0,  0, 0, 0, 0,  0, 0, 0, 0,  0, 0, 0, 0,
        0, 0, 0, 0,  0, 0, 0, 0,  1, 0, 0, 0,  0, 0, 0, 0,  0, 0, 0, 0};
    private static final int[] GREATEST = {
        200, 40, 16, 4,  63, 40, 255, 0,  63, 0, 0, 0,  0, 0, 0, 0,  0, 0, 0, 0,
        0, 0, 0, 0,  11, 0, 0, 0,  20, 0, 0, 0,  0, 0, 0, 0,  0, 0, 0, 0};

    private final State now = new State();
    /** Where acts are tried that may not stay, and where a text's begin is kept while it is done. */
    private final State paper = new State();
    private final State kept = new State();
    private boolean isKept;
    private final Memory memory = new Memory();
    private final Tape tape = new Tape();
    /** NUMBERS by KEYS, made anew whenever OLD is asked; a row of its own, so that no call makes one. */
    private final int[] ages = new int[KEYS];
    private int wrongByte = NONE;
    private int refusedBy;

    public AsideStore() {
    }

    // ---- the TAPE and its texts

    public int feed(int a, int b, int c, int d, int e) {
        if (!tape.hasRoom(20)) {
            return NONE;
        }
        tape.take(a);
        tape.take(b);
        tape.take(c);
        tape.take(d);
        tape.take(e);
        return tape.size;
    }

    public boolean end(int n) {
        if (n < 0 || n > tape.size) {
            return false;
        }
        tape.size = n;
        return true;
    }

    public int acts() throws IllegalArgumentException {
        int done = 0;
        int refusal = 0;
        paper.copyFrom(now);
        tape.rewind();
        while (done <= MOST_ACTS && refusal == 0 && tape.readAct(done)) {
            refusal = now.refusalOf(tape.act, tape.number(0), tape.number(1));
            if (refusal == 0) {
                now.perform(tape.act, tape.number(0), tape.number(1), tape.number(2), tape.number(3));
                done++;
            }
        }
        tape.size = 0;
        wrongByte = refusal == 0 ? tape.wrong : tape.begin;
        if (wrongByte != NONE) {
            now.copyFrom(paper);
            refusedBy = refusal == 0 ? refusedBy : refusal;
            throw new IllegalArgumentException("the text is wrong");
        }
        memory.forget();
        refusedBy = done == 0 ? refusedBy : 0;
        return done;
    }

    public int fault() {
        return wrongByte;
    }

    public int why() {
        return refusedBy;
    }

    // ---- ACTS by calls

    public int store(int room, int brief, int most, int runs) throws IllegalArgumentException {
        if (!mayBe(STORE, 0, room) || !mayBe(STORE, 1, brief) || !mayBe(STORE, 2, most) || !mayBe(STORE, 3, runs)) {
            throw new IllegalArgumentException("a TERM is none");
        }
        refusedBy = 0;
        memory.forget();
        return now.perform(STORE, room, brief, most, runs);
    }

    public int put(int key, int length, int seed)
            throws IndexOutOfBoundsException, IllegalArgumentException, IllegalStateException {
        lookAtKey(key);
        if (!mayBe(PUT, 1, length) || !mayBe(PUT, 2, seed)) {
            throw new IllegalArgumentException("LENGTH or SEED is none");
        }
        lookAtRefusal(now.refusalOf(PUT, key, length));
        return now.perform(PUT, key, length, seed, 0);
    }

    public int drop(int key) throws IndexOutOfBoundsException, IllegalStateException {
        lookAtKey(key);
        lookAtRefusal(now.refusalOf(DROP, key, 0));
        return now.perform(DROP, key, 0, 0, 0);
    }

    public int sync() {
        getReady();
        return now.perform(SYNC, 0, 0, 0, 0);
    }

    public int flush() {
        getReady();
        return now.perform(FLUSH, 0, 0, 0, 0);
    }

    public int merge() {
        getReady();
        return now.perform(MERGE, 0, 0, 0, 0);
    }

    public int crash() {
        getReady();
        return now.perform(CRASH, 0, 0, 0, 0);
    }

    public int pick(int segment) throws IndexOutOfBoundsException, IllegalStateException {
        if (segment != NONE) {
            lookAtSegment(segment);
        }
        lookAtRefusal(now.refusalOf(PICK, segment, 0));
        return now.perform(PICK, segment, 0, 0, 0);
    }

    public int step(int n) throws IllegalArgumentException, IllegalStateException {
        if (!mayBe(STEP, 0, n)) {
            throw new IllegalArgumentException("no such number of STEPS");
        }
        lookAtRefusal(now.refusalOf(STEP, n, 0));
        return now.perform(STEP, n, 0, 0, 0);
    }

    public int quit() throws IllegalStateException {
        lookAtRefusal(now.refusalOf(QUIT, 0, 0));
        return now.perform(QUIT, 0, 0, 0, 0);
    }

    public int undo() throws IllegalStateException {
        if (!memory.takeBack(now)) {
            throw new IllegalStateException("no ACT is remembered");
        }
        return memory.size;
    }

    private void lookAtRefusal(int refusal) {
        if (refusal != 0) {
            refusedBy = refusal;
            throw new IllegalStateException("the ACT is refused");
        }
        getReady();
    }

    /** Nothing stands in the way of an ACT by a call, so all is remembered as it is ahead of it. */
    private void getReady() {
        refusedBy = 0;
        memory.remember(now);
    }

    // ---- what is asked

    public int key(int key, int what) throws IndexOutOfBoundsException, NoSuchElementException {
        lookAtKey(key);
        lookAtWhat(what, 9);
        if (what == 9) {
            paper.copyFrom(now);
            paper.loseUnsecured();
            return lengthOn(paper, key);
        }
        return ofKey(key, what, now.tree.currentOf(key));
    }

    private int ofKey(int key, int what, long card) {
        int kind = now.kindOf(card);
        switch (what) {
            case 0:
                return lengthOn(now, key);
            case 1:
                return now.hasValue(key) ? Card.seedOf(card) : NONE;
            case 2:
                return kind;
            case 3:
                return kind == State.IS_NONE ? NONE : Card.numberOf(card);
            case 4:
                return kind == State.IS_LONG ? Card.segmentOf(card) : NONE;
            case 5:
                return kind == State.IS_LONG ? Card.beginOf(card) : NONE;
            case 6:
                return now.costOf(key);
            case 7:
                return now.tree.levelOf(key);
            default:
                return now.tree.entriesOf(key);
        }
    }

    private static int lengthOn(State state, int key) {
        return state.hasValue(key) ? Card.lengthOf(state.tree.currentOf(key)) : NONE;
    }

    public int octet(int key, int i) throws IndexOutOfBoundsException {
        lookAtKey(key);
        if (i < 0 || i >= lengthOn(now, key)) {
            return NONE;
        }
        return (Card.seedOf(now.tree.currentOf(key)) + 7 * i) & 255;
    }

    public int from(int key, int k) throws IndexOutOfBoundsException {
        lookAtKey(key);
        int ahead = 0;
        for (int other = key; other < KEYS; other++) {
            if (now.hasValue(other)) {
                if (ahead == k) {
                    return other;
                }
                ahead++;
            }
        }
        return NONE;
    }

    public int below(int key) throws IndexOutOfBoundsException {
        lookAtKey(key);
        return now.valuesBelow(key);
    }

    public int segment(int segment, int what) throws IndexOutOfBoundsException, NoSuchElementException {
        lookAtSegment(segment);
        lookAtWhat(what, 6);
        Segments all = now.segments;
        switch (what) {
            case 0:
                return all.kindOf(segment);
            case 1:
                return all.countOf(segment);
            case 2:
                return all.takenOf(segment);
            case 3:
                return now.liveOf(segment);
            case 4:
                return now.deadOf(segment);
            case 5:
                return all.countOf(segment) == 0 ? NONE : all.greatestOf(segment);
            default:
                return all.kindOf(segment) == SEALED ? now.deadOf(segment) - now.liveOf(segment) : 0;
        }
    }

    public int record(int segment, int k, int what) throws IndexOutOfBoundsException, NoSuchElementException {
        lookAtSegment(segment);
        lookAtWhat(what, 4);
        long card = now.segments.cardAt(segment, k);
        if (card == Card.NO_CARD) {
            return NONE;
        }
        switch (what) {
            case 0:
                return Card.keyOf(card);
            case 1:
                return Card.isDrop(card) ? NONE : Card.lengthOf(card);
            case 2:
                return Card.numberOf(card);
            case 3:
                return Card.beginOf(card);
            default:
                return now.isLive(card) ? 1 : 0;
        }
    }

    public int run(int run, int what) throws IndexOutOfBoundsException, NoSuchElementException {
        lookAtRun(run);
        lookAtWhat(what, 4);
        Tree tree = now.tree;
        int level = run + 1;
        switch (what) {
            case 0:
                return tree.sizeOf(level);
            case 1:
                return tree.keyAt(level, 0);
            case 2:
                return tree.keyAt(level, tree.sizeOf(level) - 1);
            case 3:
                return tree.dropsOf(level);
            default:
                return tree.currentsOf(level);
        }
    }

    public int entry(int run, int k) throws IndexOutOfBoundsException {
        if (run != NONE) {
            lookAtRun(run);
        }
        return now.tree.keyAt(run + 1, k);
    }

    public int overlap(int run, int other) throws IndexOutOfBoundsException, IllegalArgumentException {
        lookAtRun(run);
        lookAtRun(other);
        if (run == other) {
            throw new IllegalArgumentException("both RUNS are one");
        }
        return now.tree.overlapOf(run + 1, other + 1);
    }

    public int rank(int key, boolean twin) throws IndexOutOfBoundsException {
        lookAtKey(key);
        if (!now.hasValue(key)) {
            return NONE;
        }
        return twin ? now.twinOf(key) : now.rankOf(key);
    }

    public int old(int k) {
        for (int key = 0; key < KEYS; key++) {
            ages[key] = now.hasValue(key) ? Card.numberOf(now.tree.currentOf(key)) : NONE;
        }
        for (int key = 0; key < KEYS; key++) {
            if (ages[key] != NONE && elderThan(ages[key]) == k) {
                return key;
            }
        }
        return NONE;
    }

    private int elderThan(int number) {
        int elder = 0;
        for (int age : ages) {
            elder += age != NONE && age < number ? 1 : 0;
        }
        return elder;
    }

    public int holds(int length) throws IllegalArgumentException {
        if (!mayBe(PUT, 1, length)) {
            throw new IllegalArgumentException("LENGTH is none");
        }
        return Math.min(MOST_HOLDS, now.fitting(HEAD + length));
    }

    public int would(int segment, int what) throws IndexOutOfBoundsException, NoSuchElementException {
        lookAtSegment(segment);
        lookAtWhat(what, 2);
        if (now.refusalOf(PICK, segment, 0) != 0) {
            return NO_COLLECTION;
        }
        paper.copyFrom(now);
        paper.noteLive(segment);
        if (!paper.collectAll()) {
            return NO_COLLECTION;
        }
        switch (what) {
            case 0:
                return paper.totals.back - now.totals.back;
            case 1:
                return paper.spare() - now.spare();
            default:
                return paper.totals.rows - now.totals.rows;
        }
    }

    public int sweep(int n, int what) throws IllegalArgumentException, NoSuchElementException {
        if (n < 1 || n > 6) {
            throw new IllegalArgumentException("no such number of sweeps");
        }
        lookAtWhat(what, 2);
        int swept = 0;
        boolean goesOn = true;
        paper.copyFrom(now);
        for (int i = 0; i < n && goesOn; i++) {
            paper.collection.stop();
            int poorest = paper.poorest();
            goesOn = poorest != NONE;
            if (goesOn) {
                paper.noteLive(poorest);
                goesOn = paper.collectAll();
                swept += goesOn ? 1 : 0;
            }
        }
        switch (what) {
            case 0:
                return swept;
            case 1:
                return paper.spare();
            default:
                return paper.liveInHundredths();
        }
    }

    public int traces(int key, int what) throws IndexOutOfBoundsException, NoSuchElementException {
        lookAtKey(key);
        lookAtWhat(what, 2);
        Segments all = now.segments;
        int records = 0;
        int sizes = 0;
        int bits = 0;
        for (int segment = 0; segment < SEGMENTS; segment++) {
            for (int k = 0; k < all.countOf(segment); k++) {
                long card = all.cardAt(segment, k);
                if (Card.keyOf(card) == key) {
                    records++;
                    sizes += Card.sizeOf(card);
                    bits |= 1 << segment;
                }
            }
        }
        return what == 0 ? records : what == 1 ? sizes : bits;
    }

    public int log(int k, int what) throws NoSuchElementException {
        lookAtWhat(what, 2);
        return now.diary.told(k, what);
    }

    public void image() {
        kept.copyFrom(now);
        isKept = true;
    }

    public boolean back() {
        if (!isKept) {
            return false;
        }
        now.copyFrom(kept);
        memory.forget();
        return true;
    }

    public int count(int what) {
        if (what < 0 || what > 27) {
            return NONE;
        }
        return what < 10 ? countOfKeys(what) : what < 20 ? countOfBytes(what) : countOfRest(what);
    }

    private int countOfKeys(int what) {
        switch (what) {
            case 0:
                return now.terms.room;
            case 1:
                return now.terms.brief;
            case 2:
                return now.terms.most;
            case 3:
                return now.terms.limit;
            case 4:
                return now.tree.runs;
            case 5:
                return now.tree.sizeOf(0);
            case 6:
                return now.valuesBelow(KEYS);
            case 7:
                return now.latest;
            case 8:
                return now.secured;
            default:
                return now.mark;
        }
    }

    private int countOfBytes(int what) {
        switch (what) {
            case 10:
                return now.segments.freeOnes();
            case 11:
                return now.segments.open;
            case 12:
                return now.liveOfAll();
            case 13:
                return now.segments.takenOfAll() - now.liveOfAll();
            case 14:
                return now.collection.segment;
            case 15:
                return now.collection.left();
            case 16:
                return now.totals.back;
            case 17:
                return now.totals.skipped;
            case 18:
                return now.totals.written;
            default:
                return now.totals.rows;
        }
    }

    private int countOfRest(int what) {
        switch (what) {
            case 20:
                return now.totals.ample();
            case 21:
                return doomed();
            case 22:
                return now.spare();
            case 23:
                return now.poorest();
            case 24:
                return now.heaviest();
            case 25:
                return memory.size;
            case 26:
                return now.diary.size;
            default:
                return now.replayed();
        }
    }

    private int doomed() {
        int found = 0;
        paper.copyFrom(now);
        paper.loseUnsecured();
        for (int key = 0; key < KEYS; key++) {
            if (now.valueOf(key) != paper.valueOf(key)) {
                found++;
            }
        }
        return found;
    }

    // ---- looking at arguments

    private static boolean mayBe(int act, int which, int number) {
        int at = act * MOST_NUMBERS + which;
        if (at < 0 || at >= LEAST.length || at >= GREATEST.length) {
            return false;
        }
        return number >= LEAST[at] && number <= GREATEST[at];
    }

    private static void lookAtKey(int key) {
        if (key < 0 || key >= KEYS) {
            throw new IndexOutOfBoundsException("no such KEY");
        }
    }

    private static void lookAtSegment(int segment) {
        if (segment < 0 || segment >= SEGMENTS) {
            throw new IndexOutOfBoundsException("no such SEGMENT");
        }
    }

    private void lookAtRun(int run) {
        if (run < 0 || run >= now.tree.runs) {
            throw new IndexOutOfBoundsException("no such RUN");
        }
    }

    private static void lookAtWhat(int what, int last) {
        if (what < 0 || what > last) {
            throw new NoSuchElementException("no such what");
        }
    }

    /**
     * A RECORD as one number: NUMBER, SEGMENT, begin, KEY, LENGTH, SEED from the highest bits down.
     * The ENTRY made of a RECORD is the same number, so that an ENTRY points to a RECORD exactly if
     * both are equal.
     */
    private static final class Card {
        static final long NO_CARD = 0;
        static final long LENGTH_BITS = 63L << 8;

        static long made(int number, int segment, int begin, int key, int length, int seed) {
            long place = (long) number << 12 | (long) (segment << 8) | begin;
            return place << 20 | (long) (key << 14 | length << 8 | seed);
        }

        static int numberOf(long card) {
            return (int) (card >>> 32);
        }

        static int segmentOf(long card) {
            return (int) (card >>> 28) & 15;
        }

        static int beginOf(long card) {
            return (int) (card >>> 20) & 255;
        }

        static int keyOf(long card) {
            return (int) (card >>> 14) & 63;
        }

        static int lengthOf(long card) {
            return (int) (card >>> 8) & 63;
        }

        static int seedOf(long card) {
            return (int) card & 255;
        }

        static int sizeOf(long card) {
            return HEAD + lengthOf(card);
        }

        /** Also true of no RECORD at all: neither has a VALUE. */
        static boolean isDrop(long card) {
            return (card & LENGTH_BITS) == 0;
        }
    }

    /** The TERMS. */
    private static final class Terms {
        int room;
        int brief;
        int most;
        int limit;

        void copyFrom(Terms other) {
            room = other.room;
            brief = other.brief;
            most = other.most;
            limit = other.limit;
        }
    }

    /** What is added up since STORE and never taken off. */
    private static final class Totals {
        int written;
        int told;
        int rows;
        int back;
        int skipped;

        void copyFrom(Totals other) {
            written = other.written;
            told = other.told;
            rows = other.rows;
            back = other.back;
            skipped = other.skipped;
        }

        void clear() {
            written = 0;
            told = 0;
            rows = 0;
            back = 0;
            skipped = 0;
        }

        int ample() {
            return told == 0 ? 100 : (int) (100L * written / told);
        }
    }

    /** The SEGMENTS with their RECORDS. */
    private static final class Segments {
        final long[] cards = new long[SEGMENTS * MOST_RECORDS];
        final int[] counts = new int[SEGMENTS];
        final int[] taken = new int[SEGMENTS];
        final int[] kinds = new int[SEGMENTS];
        int open;

        void copyFrom(Segments other) {
            System.arraycopy(other.cards, 0, cards, 0, cards.length);
            System.arraycopy(other.counts, 0, counts, 0, SEGMENTS);
            System.arraycopy(other.taken, 0, taken, 0, SEGMENTS);
            System.arraycopy(other.kinds, 0, kinds, 0, SEGMENTS);
            open = other.open;
        }

        void clear() {
            for (int segment = 0; segment < SEGMENTS; segment++) {
                release(segment);
            }
            openAt(0);
        }

        static boolean isOne(int segment) {
            return segment >= 0 && segment < SEGMENTS;
        }

        int kindOf(int segment) {
            return segment < 0 || segment >= SEGMENTS ? FREE : kinds[segment];
        }

        int countOf(int segment) {
            return segment < 0 || segment >= SEGMENTS ? 0 : counts[segment];
        }

        int takenOf(int segment) {
            return segment < 0 || segment >= SEGMENTS ? 0 : taken[segment];
        }

        int takenOfAll() {
            int all = 0;
            for (int bytes : taken) {
                all += bytes;
            }
            return all;
        }

        long cardAt(int segment, int k) {
            if (segment < 0 || segment >= SEGMENTS || k < 0 || k >= counts[segment] || k >= MOST_RECORDS) {
                return Card.NO_CARD;
            }
            return cards[segment * MOST_RECORDS + k];
        }

        /** NUMBERS rise within a SEGMENT, so its last RECORD has the greatest one; 0 without. */
        int greatestOf(int segment) {
            return Card.numberOf(cardAt(segment, countOf(segment) - 1));
        }

        int freeOnes() {
            int found = 0;
            for (int kind : kinds) {
                found += kind == FREE ? 1 : 0;
            }
            return found;
        }

        int leastFree() {
            for (int segment = 0; segment < SEGMENTS; segment++) {
                if (kinds[segment] == FREE) {
                    return segment;
                }
            }
            return NONE;
        }

        void openAt(int segment) {
            if (isOne(segment)) {
                open = segment;
                kinds[segment] = OPEN;
            }
        }

        void openNext() {
            int next = leastFree();
            if (isOne(open) && next != NONE) {
                kinds[open] = SEALED;
                openAt(next);
            }
        }

        void release(int segment) {
            if (isOne(segment)) {
                kinds[segment] = FREE;
                counts[segment] = 0;
                taken[segment] = 0;
            }
        }

        long append(int number, int key, int length, int seed) {
            int k = countOf(open);
            long card = Card.made(number, open, takenOf(open), key, length, seed);
            if (isOne(open) && k < MOST_RECORDS) {
                cards[open * MOST_RECORDS + k] = card;
                counts[open] = k + 1;
                taken[open] += HEAD + length;
            }
            return card;
        }

        int cutAbove(int number) {
            int gone = 0;
            for (int segment = 0; segment < SEGMENTS; segment++) {
                for (int k = counts[segment] - 1; k >= 0 && Card.numberOf(cardAt(segment, k)) > number; k--) {
                    taken[segment] -= Card.sizeOf(cardAt(segment, k));
                    counts[segment] = k;
                    gone++;
                }
            }
            return gone;
        }

        void openLatest() {
            int latest = 0;
            for (int segment = 0; segment < SEGMENTS; segment++) {
                kinds[segment] = counts[segment] == 0 ? FREE : SEALED;
                if (greatestOf(segment) > greatestOf(latest)) {
                    latest = segment;
                }
            }
            openAt(latest);
        }
    }

    /** ENTRIES by levels and KEYS: level 0 is the TABLE, behind it the RUNS, the latest first. */
    private static final class Tree {
        final long[] cards = new long[LEVELS * KEYS];
        final int[] sizes = new int[LEVELS];
        int runs;

        void copyFrom(Tree other) {
            System.arraycopy(other.cards, 0, cards, 0, cards.length);
            System.arraycopy(other.sizes, 0, sizes, 0, LEVELS);
            runs = other.runs;
        }

        void clear() {
            for (int level = 0; level < LEVELS; level++) {
                clearLevel(level);
            }
            runs = 0;
        }

        void clearLevel(int level) {
            if (level < 0 || level >= LEVELS) {
                return;
            }
            for (int key = 0; key < KEYS; key++) {
                cards[level * KEYS + key] = Card.NO_CARD;
            }
            sizes[level] = 0;
        }

        int sizeOf(int level) {
            return level < 0 || level >= LEVELS ? 0 : sizes[level];
        }

        long at(int level, int key) {
            if (level < 0 || level >= LEVELS || key < 0 || key >= KEYS) {
                return Card.NO_CARD;
            }
            return cards[level * KEYS + key];
        }

        int levelOf(int key) {
            for (int level = 0; level <= runs; level++) {
                if (at(level, key) != Card.NO_CARD) {
                    return level;
                }
            }
            return NONE;
        }

        /** Asked for each RECORD whenever bytes are counted, so it goes down the levels by itself. */
        long currentOf(int key) {
            if (key < 0 || key >= KEYS) {
                return Card.NO_CARD;
            }
            int behind = Math.min((runs + 1) * KEYS, cards.length);
            for (int at = key; at < behind; at += KEYS) {
                if (cards[at] != Card.NO_CARD) {
                    return cards[at];
                }
            }
            return Card.NO_CARD;
        }

        int entriesOf(int key) {
            int found = 0;
            for (int level = 0; level <= runs; level++) {
                found += at(level, key) == Card.NO_CARD ? 0 : 1;
            }
            return found;
        }

        int runEntries() {
            int found = 0;
            for (int level = 1; level <= runs && level < LEVELS; level++) {
                found += sizes[level];
            }
            return found;
        }

        int keyAt(int level, int k) {
            int ahead = 0;
            for (int key = 0; key < KEYS; key++) {
                if (at(level, key) != Card.NO_CARD) {
                    if (ahead == k) {
                        return key;
                    }
                    ahead++;
                }
            }
            return NONE;
        }

        int dropsOf(int level) {
            int found = 0;
            for (int key = 0; key < KEYS; key++) {
                long card = at(level, key);
                found += card != Card.NO_CARD && Card.isDrop(card) ? 1 : 0;
            }
            return found;
        }

        int currentsOf(int level) {
            int found = 0;
            for (int key = 0; key < KEYS; key++) {
                found += levelOf(key) == level ? 1 : 0;
            }
            return found;
        }

        int overlapOf(int level, int other) {
            int found = 0;
            for (int key = 0; key < KEYS; key++) {
                found += at(level, key) != Card.NO_CARD && at(other, key) != Card.NO_CARD ? 1 : 0;
            }
            return found;
        }

        boolean isFullFor(int key, int most) {
            return sizes[0] >= most && at(0, key) == Card.NO_CARD;
        }

        void intoTable(long card) {
            int key = Card.keyOf(card);
            sizes[0] += at(0, key) == Card.NO_CARD ? 1 : 0;
            cards[key] = card;
        }

        /** Every level becomes the one behind it, so that the TABLE is the latest RUN. */
        void tableToRun() {
            if (runs < 0 || runs + 1 >= LEVELS) {
                return;
            }
            System.arraycopy(cards, 0, cards, KEYS, (runs + 1) * KEYS);
            System.arraycopy(sizes, 0, sizes, 1, runs + 1);
            clearLevel(0);
            runs++;
        }

        /** All RUNS into the latest one, which a later ENTRY never leaves; then DROPPED ones go. */
        int foldRuns() {
            int left = 0;
            for (int level = 2; level <= runs && level < LEVELS; level++) {
                for (int key = 0; key < KEYS; key++) {
                    if (cards[KEYS + key] == Card.NO_CARD) {
                        cards[KEYS + key] = cards[level * KEYS + key];
                    }
                    cards[level * KEYS + key] = Card.NO_CARD;
                }
                sizes[level] = 0;
            }
            for (int at = KEYS; at < 2 * KEYS && runs > 0; at++) {
                if ((cards[at] & Card.LENGTH_BITS) == 0) {
                    cards[at] = Card.NO_CARD;
                } else {
                    left++;
                }
            }
            sizes[1] = left;
            runs = left == 0 ? 0 : 1;
            return left;
        }
    }

    /** The COLLECTION that is on, if one is: its SEGMENT, and what is NOTED of it. */
    private static final class Collecting {
        final long[] noted = new long[MOST_RECORDS];
        int segment = NONE;
        int size;
        int next;

        void copyFrom(Collecting other) {
            System.arraycopy(other.noted, 0, noted, 0, noted.length);
            segment = other.segment;
            size = other.size;
            next = other.next;
        }

        void start(int picked) {
            segment = picked;
            size = 0;
            next = 0;
        }

        void stop() {
            start(NONE);
        }

        boolean isOn() {
            return segment != NONE;
        }

        void note(long card) {
            if (size >= 0 && size < noted.length) {
                noted[size] = card;
                size++;
            }
        }

        int left() {
            return size - next;
        }

        /** The i-th of those that are left. */
        long ahead(int i) {
            int at = next + i;
            return at < 0 || at >= size || at >= noted.length ? Card.NO_CARD : noted[at];
        }
    }

    /** THE LOG. */
    private static final class Diary {
        static final int WIDTH = 3;
        final int[] cells = new int[MOST_ROWS * WIDTH];
        int size;

        void copyFrom(Diary other) {
            System.arraycopy(other.cells, 0, cells, 0, cells.length);
            size = other.size;
        }

        void tellOf(int what, int number, int latest) {
            if (size >= MOST_ROWS) {
                System.arraycopy(cells, WIDTH, cells, 0, cells.length - WIDTH);
                size = MOST_ROWS - 1;
            }
            int at = size * WIDTH;
            if (at >= 0 && at + 2 < cells.length) {
                cells[at] = what;
                cells[at + 1] = number;
                cells[at + 2] = latest;
                size++;
            }
        }

        int told(int k, int what) {
            if (k < 0 || k >= size || k >= MOST_ROWS || what < 0 || what >= WIDTH) {
                return NONE;
            }
            return cells[k * WIDTH + what];
        }
    }

    /** All that an ACT may change and that may be gone back to. */
    private static final class State {
        static final int IS_NONE = 0;
        static final int IS_DROPPED = 1;
        static final int IS_SHORT = 2;
        static final int IS_LONG = 3;

        final Terms terms = new Terms();
        final Totals totals = new Totals();
        final Segments segments = new Segments();
        final Tree tree = new Tree();
        final Collecting collection = new Collecting();
        final Diary diary = new Diary();
        int latest;
        int secured;
        int mark;

        State() {
            begin(100, 8, 6, 3);
        }

        private void begin(int room, int brief, int most, int limit) {
            terms.room = room;
            terms.brief = brief;
            terms.most = most;
            terms.limit = limit;
            totals.clear();
            segments.clear();
            tree.clear();
            collection.stop();
            diary.size = 0;
            latest = 0;
            secured = 0;
            mark = 0;
        }

        void copyFrom(State other) {
            terms.copyFrom(other.terms);
            totals.copyFrom(other.totals);
            segments.copyFrom(other.segments);
            tree.copyFrom(other.tree);
            collection.copyFrom(other.collection);
            diary.copyFrom(other.diary);
            latest = other.latest;
            secured = other.secured;
            mark = other.mark;
        }

        // -- ACTS

        /** The number by which an ACT is refused; 0, if it can be done. */
        int refusalOf(int act, int a, int b) {
            switch (act) {
                case PUT:
                    return fits(HEAD + b) ? 0 : NO_ROOM;
                case DROP:
                    return !fits(HEAD) ? NO_ROOM : hasValue(a) ? 0 : NO_VALUE;
                case PICK:
                    return refusalOfPick(a == NONE ? poorest() : a);
                case STEP:
                    return refusalOfStep(a);
                case QUIT:
                    return collection.isOn() ? 0 : NONE_IS_ON;
                default:
                    return 0;
            }
        }

        private int refusalOfPick(int segment) {
            if (collection.isOn()) {
                return ONE_IS_ON;
            }
            return segments.kindOf(segment) == SEALED ? 0 : NOT_SEALED;
        }

        /** Only the first one to be WRITTEN BACK may refuse a STEP; SKIPPED ones ahead of it do not count. */
        private int refusalOfStep(int n) {
            if (!collection.isOn()) {
                return NONE_IS_ON;
            }
            for (int i = 0; i < n && i < collection.left(); i++) {
                long card = collection.ahead(i);
                if (isLive(card)) {
                    return fits(Card.sizeOf(card)) ? 0 : NO_ROOM;
                }
            }
            return 0;
        }

        /** Does an ACT that is not refused, and answers what its call does. */
        int perform(int act, int a, int b, int c, int d) {
            switch (act) {
                case STORE:
                    begin(a, b, c, d);
                    return segments.freeOnes();
                case PUT:
                    totals.told += HEAD + b;
                    return enter(a, b, c);
                case DROP:
                    totals.told += HEAD;
                    return enter(a, 0, 0);
                case SYNC:
                    return secureAll();
                case FLUSH:
                    flushTable();
                    return tree.runs;
                case CRASH:
                    return loseUnsecured();
                case PICK:
                    return noteLive(a == NONE ? poorest() : a);
                case STEP:
                    return collect(a);
                case QUIT:
                    return leaveCollection();
                case MERGE:
                    return mergeRuns();
                default:
                    return NONE;
            }
        }

        private int enter(int key, int length, int seed) {
            int size = HEAD + length;
            if (tree.isFullFor(key, terms.most)) {
                flushTable();
            }
            if (leftOpen() < size) {
                diary.tellOf(ROW_SEALED, segments.open, latest);
                segments.openNext();
            }
            latest++;
            totals.written += size;
            tree.intoTable(segments.append(latest, key, length, seed));
            return latest;
        }

        private int secureAll() {
            int more = latest - secured;
            secured = latest;
            return more;
        }

        private void flushTable() {
            int entries = tree.sizeOf(0);
            secureAll();
            mark = latest;
            if (entries > 0) {
                tree.tableToRun();
                totals.rows += entries;
                diary.tellOf(ROW_FLUSH, entries, latest);
            }
            if (tree.runs > terms.limit) {
                mergeRuns();
            }
        }

        private int mergeRuns() {
            int merged = tree.runs;
            int ahead = tree.runEntries();
            int left = tree.foldRuns();
            if (merged > 1) {
                totals.rows += left;
                diary.tellOf(ROW_MERGE, left, latest);
            }
            return ahead - left;
        }

        int loseUnsecured() {
            int gone = segments.cutAbove(secured);
            segments.openLatest();
            collection.stop();
            diary.tellOf(ROW_CRASH, gone, latest);
            latest = Math.max(secured, mark);
            replay();
            return gone;
        }

        /** RECORDS do not lie by NUMBERS over several SEGMENTS, so an ENTRY gives way to a later one alone. */
        private void replay() {
            tree.clearLevel(0);
            for (int segment = 0; segment < SEGMENTS; segment++) {
                for (int k = 0; k < segments.countOf(segment); k++) {
                    long card = segments.cardAt(segment, k);
                    int there = Card.numberOf(tree.at(0, Card.keyOf(card)));
                    if (Card.numberOf(card) > mark && Card.numberOf(card) > there) {
                        tree.intoTable(card);
                    }
                }
            }
        }

        int noteLive(int segment) {
            collection.start(segment);
            for (int k = 0; k < segments.countOf(segment); k++) {
                long card = segments.cardAt(segment, k);
                if (isLive(card)) {
                    collection.note(card);
                }
            }
            return collection.size;
        }

        int collect(int n) {
            int written = 0;
            for (int i = 0; i < n && collection.isOn(); i++) {
                if (collection.left() > 0) {
                    long card = collection.ahead(0);
                    if (!isLive(card)) {
                        totals.skipped++;
                    } else if (fits(Card.sizeOf(card))) {
                        enter(Card.keyOf(card), Card.lengthOf(card), Card.seedOf(card));
                        totals.back++;
                        written++;
                    } else {
                        return written;
                    }
                    collection.next++;
                }
                if (collection.left() == 0) {
                    endCollection();
                }
            }
            return written;
        }

        private void endCollection() {
            int segment = collection.segment;
            flushTable();
            segments.release(segment);
            collection.stop();
            diary.tellOf(ROW_FREE, segment, latest);
        }

        private int leaveCollection() {
            int left = collection.left();
            collection.stop();
            return left;
        }

        /** All STEPS: whether they come to their end. */
        boolean collectAll() {
            for (int i = 0; i <= MOST_RECORDS && collection.isOn(); i++) {
                collect(1);
            }
            return !collection.isOn();
        }

        // -- bytes

        private int leftOpen() {
            return terms.room - segments.takenOf(segments.open);
        }

        private boolean fits(int size) {
            return leftOpen() >= size || segments.leastFree() != NONE;
        }

        int spare() {
            return leftOpen() + segments.freeOnes() * terms.room;
        }

        int fitting(int size) {
            return size <= 0 ? 0 : leftOpen() / size + segments.freeOnes() * (terms.room / size);
        }

        boolean isLive(long card) {
            return Card.lengthOf(card) > terms.brief && tree.currentOf(Card.keyOf(card)) == card;
        }

        int liveOf(int segment) {
            int live = 0;
            for (int k = 0; k < segments.countOf(segment); k++) {
                long card = segments.cardAt(segment, k);
                live += isLive(card) ? Card.sizeOf(card) : 0;
            }
            return live;
        }

        int deadOf(int segment) {
            return segments.takenOf(segment) - liveOf(segment);
        }

        int liveOfAll() {
            int live = 0;
            for (int segment = 0; segment < SEGMENTS; segment++) {
                live += liveOf(segment);
            }
            return live;
        }

        int liveInHundredths() {
            int all = spare() + segments.takenOfAll();
            return all <= 0 ? 0 : 100 * liveOfAll() / all;
        }

        int poorest() {
            int found = NONE;
            int least = 0;
            for (int segment = 0; segment < SEGMENTS; segment++) {
                if (segments.kindOf(segment) == SEALED) {
                    int live = liveOf(segment);
                    if (found == NONE || live < least) {
                        found = segment;
                        least = live;
                    }
                }
            }
            return found;
        }

        int replayed() {
            int found = 0;
            for (int segment = 0; segment < SEGMENTS; segment++) {
                for (int k = 0; k < segments.countOf(segment); k++) {
                    int number = Card.numberOf(segments.cardAt(segment, k));
                    found += number > mark && number <= secured ? 1 : 0;
                }
            }
            return found;
        }

        // -- KEYS

        int kindOf(long card) {
            if (card == Card.NO_CARD) {
                return IS_NONE;
            }
            if (Card.isDrop(card)) {
                return IS_DROPPED;
            }
            return Card.lengthOf(card) <= terms.brief ? IS_SHORT : IS_LONG;
        }

        boolean hasValue(int key) {
            return !Card.isDrop(tree.currentOf(key));
        }

        /**
         * A number that says how a KEY's VALUE stands among others; NONE without a VALUE. The first
         * byte is the SEED, and VALUES of one SEED are alike as far as both go, so SEEDS ahead of
         * LENGTHS order them as their bytes do.
         */
        int valueOf(int key) {
            long card = tree.currentOf(key);
            return Card.isDrop(card) ? NONE : Card.seedOf(card) << 6 | Card.lengthOf(card);
        }

        int costOf(int key) {
            int level = tree.levelOf(key);
            if (level == NONE) {
                return 1 + tree.runs;
            }
            return 1 + level + (kindOf(tree.at(level, key)) == IS_LONG ? 1 : 0);
        }

        int valuesBelow(int key) {
            int found = 0;
            for (int other = 0; other < key; other++) {
                found += hasValue(other) ? 1 : 0;
            }
            return found;
        }

        int heaviest() {
            int found = NONE;
            int longest = 0;
            for (int key = 0; key < KEYS; key++) {
                int length = Card.lengthOf(tree.currentOf(key));
                if (length > longest) {
                    found = key;
                    longest = length;
                }
            }
            return found;
        }

        int rankOf(int key) {
            int value = valueOf(key);
            int lesser = 0;
            for (int other = 0; other < KEYS; other++) {
                lesser += hasValue(other) && valueOf(other) < value ? 1 : 0;
            }
            return lesser;
        }

        int twinOf(int key) {
            int value = valueOf(key);
            for (int other = 0; other < KEYS; other++) {
                if (other != key && valueOf(other) == value) {
                    return other;
                }
            }
            return NONE;
        }
    }

    /** The States ahead of the latest ACTS, the eldest given up for a ninth. */
    private static final class Memory {
        final State[] states = new State[REMEMBERED];
        int first;
        int size;

        Memory() {
            for (int i = 0; i < REMEMBERED; i++) {
                states[i] = new State();
            }
        }

        void forget() {
            size = 0;
        }

        void remember(State state) {
            if (size == REMEMBERED) {
                first = (first + 1) % REMEMBERED;
            } else {
                size++;
            }
            State slot = latest();
            if (slot != null) {
                slot.copyFrom(state);
            }
        }

        boolean takeBack(State state) {
            State slot = latest();
            if (size == 0 || slot == null) {
                return false;
            }
            state.copyFrom(slot);
            size--;
            return true;
        }

        private State latest() {
            return states[(first + size + REMEMBERED - 1) % REMEMBERED];
        }
    }

    /** The TAPE, and the reading of it ACT by ACT. */
    private static final class Tape {
        final int[] bytes = new int[MOST_BYTES];
        final int[] numbers = new int[MOST_NUMBERS];
        int size;
        int at;
        int act;
        /** Where the first word of the latest ACT begins. */
        int begin;
        int wrong;

        boolean hasRoom(int more) {
            return size + more <= MOST_BYTES;
        }

        void take(int number) {
            for (int shift = 24; shift >= 0 && hasRoom(1); shift -= 8) {
                bytes[size] = number >>> shift & 255;
                size++;
            }
        }

        void rewind() {
            at = 0;
            wrong = NONE;
        }

        int number(int i) {
            return i < 0 || i >= MOST_NUMBERS ? NONE : numbers[i];
        }

        /** Whether one more ACT is read whole; if not, the text is through, or wrong. */
        boolean readAct(int done) {
            skipBlanks();
            if (at >= size) {
                return false;
            }
            if (done > 0) {
                if (here() != ';') {
                    return isWrong(at);
                }
                at++;
                skipBlanks();
            }
            return readWord(done) && readNumbers();
        }

        private boolean readWord(int done) {
            int behind = at;
            while (behind < size && behind < MOST_BYTES && bytes[behind] >= 'a' && bytes[behind] <= 'z') {
                behind++;
            }
            begin = at;
            act = done < MOST_ACTS ? actCalled(at, behind) : NONE;
            if (act == NONE) {
                return isWrong(at);
            }
            at = behind;
            return true;
        }

        private int actCalled(int first, int behind) {
            for (int i = 0; i < KINDS_OF_ACTS; i++) {
                if (isWord(wordOf(i), first, behind)) {
                    return i;
                }
            }
            return NONE;
        }

        private boolean isWord(String word, int first, int behind) {
            if (first < 0 || behind > MOST_BYTES || behind - first != word.length()) {
                return false;
            }
            for (int i = 0; i < word.length(); i++) {
                if (bytes[first + i] != word.charAt(i)) {
                    return false;
                }
            }
            return true;
        }

        private static String wordOf(int act) {
            switch (act) {
                case STORE:
                    return "store";
                case PUT:
                    return "put";
                case DROP:
                    return "drop";
                case SYNC:
                    return "sync";
                case FLUSH:
                    return "flush";
                case CRASH:
                    return "crash";
                case PICK:
                    return "pick";
                case STEP:
                    return "step";
                case QUIT:
                    return "quit";
                default:
                    return "merge";
            }
        }

        private boolean readNumbers() {
            int wanted = act < 0 || act >= WANTED.length ? 0 : WANTED[act];
            for (int i = 0; i < wanted && i < MOST_NUMBERS; i++) {
                skipBlanks();
                if (act == PICK && !isDigit()) {
                    numbers[i] = NONE;
                } else if (!readNumber(i)) {
                    return false;
                }
            }
            return true;
        }

        private boolean readNumber(int i) {
            int first = at;
            int number = 0;
            while (at < size && isDigit()) {
                // a number that goes on for too long is wrong anyway and must not wrap round
                number = at - first < 3 ? 10 * number + here() - '0' : NONE;
                at++;
            }
            if (at == first || !mayBe(act, i, number) || i < 0 || i >= MOST_NUMBERS) {
                return isWrong(first);
            }
            numbers[i] = number;
            return true;
        }

        private void skipBlanks() {
            while (at < size && here() == ' ') {
                at++;
            }
        }

        private boolean isDigit() {
            return here() >= '0' && here() <= '9';
        }

        private int here() {
            return at < 0 || at >= size || at >= MOST_BYTES ? NONE : bytes[at];
        }

        private boolean isWrong(int where) {
            wrong = where;
            return false;
        }
    }
}
