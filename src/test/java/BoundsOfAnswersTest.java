/** What is asked (section 3 of 'Terms', promises 18 to 33 and 36): none, the first, the last, and just beyond. */
public final class BoundsOfAnswersTest {
    private static AsideStore x;

    public static void main(String[] args) {
        cost();
        keyWithoutAnything();
        keyBehindACrash();
        octetsOfAValue();
        fromAKeyOn();
        belowAKey();
        recordsOfASegment();
        segmentsOfAllKinds();
        runsOfOneEntry();
        entriesOfRuns();
        overlaps();
        ranks();
        twins();
        byAge();
        heaviest();
        ample();
        doomed();
        spare();
        holds();
        sweepsThatDoNothing();
        sweepsThatGoOn();
        sweepsWithoutRoom();
        traces();
        replay();
        would();
        wouldWithoutRoom();
        theLog();
        thirtyRows();
        counts();
        Check.end();
    }

    private static void due(String what, Object due, Check.Call call) {
        Check.due(what, due, call);
    }

    private static void store(int room, int brief, int most, int runs) {
        x = new AsideStore();
        x.store(room, brief, most, runs);
    }

    /** Twelve SEGMENTS of 50 with 44 bytes each, of the KEYS 0 to 11: six bytes are left. */
    private static void full() {
        store(50, 0, 16, 4);
        for (int key = 0; key < 12; key++) {
            x.put(key, 40, key);
        }
    }

    /** "1 for the TABLE, 1 for each RUN looked at, until an ENTRY is found, 1 more for a POINTER that is followed." */
    private static void cost() {
        store(200, 8, 16, 4);
        due("the TABLE alone", 1, () -> x.key(1, 6));
        x.put(1, 8, 1);
        x.put(2, 9, 2);
        x.put(3, 9, 3);
        x.drop(3);
        for (int runs = 0; runs <= 4; runs++) {
            int n = runs;
            due("short, below " + n, 1 + n, () -> x.key(1, 6));
            due("long, below " + n, 2 + n, () -> x.key(2, 6));
            due("DROPPED, below " + n, 1 + n, () -> x.key(3, 6));
            due("none, behind all", 1 + n, () -> x.key(63, 6));
            if (n < 4) {
                x.flush();
                x.put(10 + n, 1, 1);
            }
        }
        due("in the TABLE of all", 1, () -> x.key(13, 6));
        x.put(2, 9, 2);
        due("found at once", 2, () -> x.key(2, 6));
    }

    /** Promise 18: NONE without a VALUE, without an ENTRY, without a POINTER. */
    private static void keyWithoutAnything() {
        int[] none = {-1, -1, 0, -1, -1, -1, 1, -1, 0, -1};
        int[] dropped = {-1, -1, 1, 2, -1, -1, 1, 0, 1, -1};
        int[] brief = {8, 7, 2, 3, -1, -1, 1, 0, 1, -1};
        int[] far = {9, 255, 3, 4, 0, 24 + 4 + 12, 2, 0, 1, -1};
        x = new AsideStore();
        ofKey(5, none);
        x.put(5, 20, 1);
        x.drop(5);
        ofKey(5, dropped);
        x.put(5, 8, 7);
        ofKey(5, brief);
        x.put(5, 9, 255);
        ofKey(5, far);
        x.crash();
        ofKey(5, none);
        due("what -1", Check.ELEMENT, () -> x.key(5, -1));
        due("what 10", Check.ELEMENT, () -> x.key(5, 10));
    }

    private static void ofKey(int key, int[] answers) {
        for (int i = 0; i < answers.length; i++) {
            int what = i;
            due("key " + key + ", what " + what, answers[i], () -> x.key(key, what));
        }
    }

    /** "9 LENGTH behind a CRASH now (NONE without)". */
    private static void keyBehindACrash() {
        x = new AsideStore();
        x.put(1, 10, 1);
        due("not SECURED", -1, () -> x.key(1, 9));
        x.sync();
        due("at SECURED", 10, () -> x.key(1, 9));
        x.put(1, 11, 1);
        due("above it", 10, () -> x.key(1, 9));
        x.drop(1);
        due("DROPPED above it", 10, () -> x.key(1, 9));
        x.sync();
        due("DROPPED", -1, () -> x.key(1, 9));
        x.put(1, 12, 1);
        x.flush();
        due("in a RUN", 12, () -> x.key(1, 9));
        due("nothing crashed", 0, () -> x.crash());
    }

    /** Promise 19: "Byte i of the VALUE of a KEY (0 to 255); NONE without." */
    private static void octetsOfAValue() {
        x = new AsideStore();
        due("no VALUE", -1, () -> x.octet(0, 0));
        for (int length : new int[] {1, 8, 9, 40}) {
            x.put(0, length, 250);
            due("-1", -1, () -> x.octet(0, -1));
            due("0", 250, () -> x.octet(0, 0));
            due("the last", (250 + 7 * (length - 1)) % 256, () -> x.octet(0, length - 1));
            due("behind it", -1, () -> x.octet(0, length));
            due("far behind it", -1, () -> x.octet(0, Integer.MAX_VALUE));
            due("far ahead", -1, () -> x.octet(0, Integer.MIN_VALUE));
        }
        x.drop(0);
        due("DROPPED", -1, () -> x.octet(0, 0));
    }

    /** Promise 20: "The k-th KEY with a VALUE that is no less than one, by numbers; NONE without." */
    private static void fromAKeyOn() {
        x = new AsideStore();
        due("none has one", -1, () -> x.from(0, 0));
        x.put(0, 1, 1);
        x.put(30, 20, 1);
        x.put(31, 1, 1);
        x.put(63, 1, 1);
        x.drop(31);
        due("itself", 0, () -> x.from(0, 0));
        due("the next", 30, () -> x.from(1, 0));
        due("itself", 30, () -> x.from(30, 0));
        due("DROPPED is none", 63, () -> x.from(31, 0));
        due("the last", 63, () -> x.from(0, 2));
        due("behind it", -1, () -> x.from(0, 3));
        due("itself", 63, () -> x.from(63, 0));
        due("behind it", -1, () -> x.from(63, 1));
        due("k -1", -1, () -> x.from(0, -1));
        due("k least", -1, () -> x.from(0, Integer.MIN_VALUE));
        due("k greatest", -1, () -> x.from(0, Integer.MAX_VALUE));
    }

    /** "BELOW a KEY: how many KEYS with VALUES are less." */
    private static void belowAKey() {
        x = new AsideStore();
        due("none", 0, () -> x.below(63));
        x.put(0, 1, 1);
        x.put(62, 1, 1);
        x.put(63, 1, 1);
        x.put(7, 1, 1);
        x.drop(7);
        due("0: none is less", 0, () -> x.below(0));
        due("1", 1, () -> x.below(1));
        due("62 is not less than itself", 1, () -> x.below(62));
        due("63: all but itself", 2, () -> x.below(63));
    }

    /** Promise 23: "LENGTH (NONE of a DROP) .. NONE without." */
    private static void recordsOfASegment() {
        store(50, 8, 16, 4);
        due("none at first", -1, () -> x.record(0, 0, 2));
        x.put(63, 40, 255);
        x.drop(63);
        x.put(1, 1, 1);
        int[][] rows = {{63, 40, 1, 0, 0}, {63, -1, 2, 44, 0}};
        for (int k = -1; k <= 2; k++) {
            for (int what = 0; what < 5; what++) {
                int at = k;
                int w = what;
                due("record " + at + " " + w, at < 0 || at > 1 ? -1 : rows[at][w], () -> x.record(0, at, w));
            }
        }
        due("the next SEGMENT has its own", 1, () -> x.record(1, 0, 0));
        due("and that alone", -1, () -> x.record(1, 1, 0));
        due("a FREE one has none", -1, () -> x.record(11, 0, 0));
        due("k greatest", -1, () -> x.record(0, Integer.MAX_VALUE, 0));
        due("k least", -1, () -> x.record(0, Integer.MIN_VALUE, 0));
        x.crash();
        due("gone", -1, () -> x.record(0, 0, 0));
    }

    /** Promise 22: "5 the greatest NUMBER in it (NONE), 6 GAIN (0 of one that is not SEALED)". */
    private static void segmentsOfAllKinds() {
        store(50, 8, 16, 4);
        due("none in it", -1, () -> x.segment(0, 5));
        x.put(1, 8, 1);
        x.put(2, 9, 2);
        due("OPEN: GAIN", 0, () -> x.segment(0, 6));
        due("LIVE", 13, () -> x.segment(0, 3));
        due("DEAD", 12, () -> x.segment(0, 4));
        x.put(3, 40, 3);
        int[] sealed = {2, 2, 25, 13, 12, 2, -1};
        int[] open = {1, 1, 44, 44, 0, 3, 0};
        int[] free = {0, 0, 0, 0, 0, -1, 0};
        for (int i = 0; i < 7; i++) {
            int what = i;
            due("SEALED, what " + i, sealed[i], () -> x.segment(0, what));
            due("OPEN, what " + i, open[i], () -> x.segment(1, what));
            due("FREE, what " + i, free[i], () -> x.segment(2, what));
        }
        due("what -1", Check.ELEMENT, () -> x.segment(0, -1));
        due("what 7", Check.ELEMENT, () -> x.segment(0, 7));
        x.put(2, 30, 9);
        due("GAIN above 0", 25, () -> x.segment(0, 6));
    }

    /** "SPREAD of a RUN: its least and its greatest KEY." Promise 24: DROPPED ones, ENTRIES that are CURRENT. */
    private static void runsOfOneEntry() {
        store(200, 8, 16, 4);
        due("no RUN", Check.INDEX, () -> x.run(0, 0));
        x.put(63, 1, 1);
        x.flush();
        ofRun(0, 1, 63, 63, 0, 1);
        x.put(0, 20, 1);
        x.put(63, 20, 1);
        x.drop(63);
        x.flush();
        ofRun(0, 2, 0, 63, 1, 2);
        ofRun(1, 1, 63, 63, 0, 0);
        x.put(0, 1, 1);
        ofRun(0, 2, 0, 63, 1, 1);
        x.put(63, 1, 1);
        ofRun(0, 2, 0, 63, 1, 0);
        x.drop(0);
        x.drop(63);
        x.flush();
        ofRun(0, 2, 0, 63, 2, 2);
        x.crash();
        due("RUN 3", Check.INDEX, () -> x.run(3, 0));
        due("what 5", Check.ELEMENT, () -> x.run(1, 5));
    }

    private static void ofRun(int run, int... answers) {
        for (int i = 0; i < answers.length; i++) {
            int what = i;
            due("run " + run + ", what " + what, answers[i], () -> x.run(run, what));
        }
    }

    /** Promise 25: "The KEY of the k-th ENTRY, by KEYS, of a RUN (NONE: of the TABLE); NONE without." */
    private static void entriesOfRuns() {
        store(200, 8, 16, 4);
        due("an empty TABLE", -1, () -> x.entry(-1, 0));
        due("no RUN", Check.INDEX, () -> x.entry(0, 0));
        x.put(63, 1, 1);
        x.put(0, 20, 1);
        due("0", 0, () -> x.entry(-1, 0));
        due("63", 63, () -> x.entry(-1, 1));
        due("no more", -1, () -> x.entry(-1, 2));
        x.flush();
        x.drop(63);
        due("DROPPED is one", 63, () -> x.entry(-1, 0));
        due("no more", -1, () -> x.entry(-1, 1));
        due("0", 0, () -> x.entry(0, 0));
        due("63", 63, () -> x.entry(0, 1));
        due("no more", -1, () -> x.entry(0, 2));
        due("k -1", -1, () -> x.entry(0, -1));
        due("k greatest", -1, () -> x.entry(0, Integer.MAX_VALUE));
        due("RUN 1", Check.INDEX, () -> x.entry(1, 0));
        due("RUN -2", Check.INDEX, () -> x.entry(-2, 0));
    }

    /** "OVERLAP of two RUNS: KEYS in both." */
    private static void overlaps() {
        store(200, 8, 16, 4);
        x.put(0, 1, 1);
        x.put(63, 1, 1);
        x.flush();
        due("one RUN alone", Check.ARGUMENT, () -> x.overlap(0, 0));
        due("no other", Check.INDEX, () -> x.overlap(0, 1));
        x.put(1, 1, 1);
        x.flush();
        due("none in both", 0, () -> x.overlap(0, 1));
        x.drop(63);
        x.put(0, 20, 1);
        x.put(1, 20, 1);
        x.flush();
        due("DROPPED ones, too", 2, () -> x.overlap(0, 2));
        due("either way", 2, () -> x.overlap(2, 0));
        due("the next", 1, () -> x.overlap(1, 0));
        due("no such RUN", Check.INDEX, () -> x.overlap(3, 3));
        due("no such RUN", Check.INDEX, () -> x.overlap(2, 3));
        due("the TABLE is none", Check.INDEX, () -> x.overlap(-1, 0));
    }

    /** "one that ends ahead of another one, alike so far, is less: RANK of a KEY: how many KEYS have a lesser VALUE". */
    private static void ranks() {
        x = new AsideStore();
        due("no VALUE", -1, () -> x.rank(0, false));
        x.put(0, 40, 255);
        due("alone", 0, () -> x.rank(0, false));
        x.put(1, 1, 255);
        due("a first part is less", 0, () -> x.rank(1, false));
        due("so this is more", 1, () -> x.rank(0, false));
        x.put(2, 39, 255);
        due("by one byte less", 1, () -> x.rank(2, false));
        due("the longest", 2, () -> x.rank(0, false));
        x.put(3, 40, 254);
        due("a lesser first byte is less, however long", 0, () -> x.rank(3, false));
        due("one more", 1, () -> x.rank(1, false));
        x.put(4, 40, 0);
        due("0 is the least", 0, () -> x.rank(4, false));
        x.put(5, 40, 255);
        due("the same is not less", 4, () -> x.rank(0, false));
        due("nor is this", 4, () -> x.rank(5, false));
        x.drop(4);
        due("DROPPED", -1, () -> x.rank(4, false));
        due("one fewer", 3, () -> x.rank(0, false));
    }

    /** "TWIN: the least other KEY with the same VALUE; none." */
    private static void twins() {
        x = new AsideStore();
        due("no VALUE", -1, () -> x.rank(0, true));
        x.put(63, 9, 9);
        due("alone", -1, () -> x.rank(63, true));
        x.put(62, 8, 9);
        due("of another LENGTH", -1, () -> x.rank(63, true));
        x.put(61, 9, 8);
        due("of another SEED", -1, () -> x.rank(63, true));
        x.put(0, 9, 9);
        due("0", 0, () -> x.rank(63, true));
        due("63", 63, () -> x.rank(0, true));
        x.put(1, 9, 9);
        due("the least", 0, () -> x.rank(63, true));
        due("the least other", 1, () -> x.rank(0, true));
        x.drop(0);
        due("the next", 1, () -> x.rank(63, true));
        due("DROPPED", -1, () -> x.rank(0, true));
        x.drop(1);
        due("none", -1, () -> x.rank(63, true));
    }

    /** "OLD: KEYS with VALUES by the NUMBERS of their CURRENT ENTRIES, the least first: the k-th." */
    private static void byAge() {
        store(50, 0, 16, 4);
        due("none", -1, () -> x.old(0));
        x.put(63, 10, 1);
        x.put(0, 10, 1);
        x.put(5, 10, 1);
        due("0", 63, () -> x.old(0));
        due("2", 5, () -> x.old(2));
        due("3", -1, () -> x.old(3));
        due("-1", -1, () -> x.old(-1));
        due("least", -1, () -> x.old(Integer.MIN_VALUE));
        due("greatest", -1, () -> x.old(Integer.MAX_VALUE));
        x.put(63, 10, 1);
        due("the first is the last", 0, () -> x.old(0));
        due("the first is the last", 63, () -> x.old(2));
        x.drop(0);
        due("DROPPED is none", 5, () -> x.old(0));
        due("two", -1, () -> x.old(2));
        x.pick(0);
        x.step(20);
        due("WRITTEN BACK is as if told", 63, () -> x.old(0));
        due("WRITTEN BACK is as if told", 5, () -> x.old(1));
    }

    /** "HEAVIEST: the KEY of the longest VALUE, of several the least; none." */
    private static void heaviest() {
        x = new AsideStore();
        due("none", -1, () -> x.count(24));
        x.put(63, 1, 1);
        due("the only one", 63, () -> x.count(24));
        x.put(62, 1, 255);
        due("of several the least", 62, () -> x.count(24));
        x.put(63, 2, 1);
        due("the longest", 63, () -> x.count(24));
        x.put(0, 2, 1);
        due("of several the least", 0, () -> x.count(24));
        x.drop(0);
        due("DROPPED is none", 63, () -> x.count(24));
        x.drop(62);
        x.drop(63);
        due("none", -1, () -> x.count(24));
    }

    /** "AMPLE: WRITTEN by TOLD in hundredths, rounded down (100 without TOLD)." */
    private static void ample() {
        x = new AsideStore();
        due("without TOLD", 100, () -> x.count(20));
        x.put(1, 1, 1);
        due("as much", 100, () -> x.count(20));
        x.crash();
        due("what a CRASH lost counts", 5, () -> x.count(18));
        due("in both", 100, () -> x.count(20));
        store(50, 0, 16, 4);
        x.put(1, 10, 1);
        x.put(2, 40, 2);
        x.pick(0);
        x.step(1);
        due("WRITTEN", 14 + 44 + 14, () -> x.count(18));
        due("7200 by 58 is 124.1", 124, () -> x.count(20));
        x.drop(1);
        due("7600 by 62 is 122.6", 122, () -> x.count(20));
        x.undo();
        due("taken back", 124, () -> x.count(20));
    }

    /** "DOOMED: KEYS whose VALUE would be another one, or none, or one in place of none, behind a CRASH now." */
    private static void doomed() {
        x = new AsideStore();
        due("none", 0, () -> x.count(21));
        x.put(1, 20, 1);
        due("none in place of it", 1, () -> x.count(21));
        x.sync();
        due("SECURED", 0, () -> x.count(21));
        x.put(1, 20, 2);
        due("another SEED", 1, () -> x.count(21));
        x.put(1, 21, 1);
        due("another LENGTH", 1, () -> x.count(21));
        x.put(1, 20, 1);
        due("the same again", 0, () -> x.count(21));
        x.drop(1);
        due("one in place of none", 1, () -> x.count(21));
        x.sync();
        x.put(2, 2, 2);
        x.drop(2);
        due("none, then as now", 0, () -> x.count(21));
        x.put(1, 1, 1);
        x.put(2, 2, 2);
        x.put(3, 3, 3);
        due("three", 3, () -> x.count(21));
        x.flush();
        due("none", 0, () -> x.count(21));
        x.put(0, 1, 1);
        due("the first KEY", 1, () -> x.count(21));
        x.put(63, 1, 1);
        due("and the last", 2, () -> x.count(21));
    }

    /** "SPARE: bytes that could be APPENDED yet: of the OPEN SEGMENT and all FREE ones." */
    private static void spare() {
        x = new AsideStore();
        due("all", 1200, () -> x.count(22));
        full();
        due("of the OPEN one alone: what SEALED ones have left is lost", 6, () -> x.count(22));
        x.put(0, 2, 0);
        due("none", 0, () -> x.count(22));
        x.pick(0);
        x.step(1);
        due("one FREE", 50, () -> x.count(22));
        x.put(1, 1, 1);
        due("it is the OPEN one", 45, () -> x.count(22));
    }

    /** "HOLDS of a LENGTH: how many PUTS .. could be done from now on, with no other ACT (99 at most)." */
    private static void holds() {
        // twelve SEGMENTS of 200 by SIZES of 24 and 25: 96 of each
        store(200, 0, 2, 1);
        due("twelve times 8", 96, () -> x.holds(21));
        due("twelve times 8", 96, () -> x.holds(20));
        due("twelve times 9 are 108", 99, () -> x.holds(18));
        // eleven times 9 and what is left of the OPEN one
        for (int i = 0; i < 8; i++) {
            x.put(0, 18, i);
        }
        due("99 and one", 99, () -> x.holds(18));
        x.put(0, 18, 8);
        due("99", 99, () -> x.holds(18));
        x.put(0, 18, 8);
        due("98 and one is 1 taken", 98, () -> x.holds(18));
        x = new AsideStore();
        for (int length = 1; length <= 40; length++) {
            int n = length;
            x.store(200, 0, 2, 1);
            due("of LENGTH " + n, Math.min(99, 12 * (200 / (4 + n))), () -> x.holds(n));
        }
        full();
        due("none of 3", 0, () -> x.holds(3));
        due("one of 2", 1, () -> x.holds(2));
        due("none of 40", 0, () -> x.holds(40));
        // as many as it says can be done, and no more
        store(60, 5, 3, 2);
        x.put(9, 17, 3);
        int most = x.holds(23);
        due("how many", 1 + 11 * 2, () -> most);
        for (int i = 0; i < most; i++) {
            x.put(i % 64, 23, 0);
        }
        due("none more", 0, () -> x.holds(23));
        due("refused", Check.STATE, () -> x.put(most % 64, 23, 0));
        due("why", 1, () -> x.why());
    }

    private static void sweep(int n, int... answers) {
        for (int i = 0; i < 3; i++) {
            int what = i;
            due("sweep " + n + ", what " + what, answers[i], () -> x.sweep(n, what));
        }
    }

    /** "SWEEP of n (1 to 6) ..: it ends ahead of a PICK that would be refused". */
    private static void sweepsThatDoNothing() {
        x = new AsideStore();
        due("0", Check.ARGUMENT, () -> x.sweep(0, 0));
        due("7", Check.ARGUMENT, () -> x.sweep(7, 0));
        due("what 3", Check.ELEMENT, () -> x.sweep(1, 3));
        due("what -1", Check.ELEMENT, () -> x.sweep(6, -1));
        sweep(1, 0, 1200, 0);
        sweep(6, 0, 1200, 0);
        x.put(1, 40, 1);
        sweep(6, 0, 1156, 100 * 44 / 1200);
        store(50, 40, 16, 4);
        x.put(1, 40, 1);
        x.put(2, 40, 2);
        // one SEALED, and none LIVE: then there is none to PICK
        sweep(1, 1, 6 + 550, 0);
        sweep(2, 1, 6 + 550, 0);
        sweep(6, 1, 6 + 550, 0);
    }

    /** "n times: QUIT, if one is on, PICK of none told, STEPS until it is through". */
    private static void sweepsThatGoOn() {
        store(50, 0, 16, 4);
        for (int key = 0; key < 8; key++) {
            x.put(key, 40, key);
        }
        x.put(0, 30, 1);
        // 8 is OPEN with 34, 0 has none LIVE, 1 to 7 have 44 each
        int live = 7 * 44 + 34;
        sweep(1, 1, 16 + 4 * 50, 100 * live / (216 + live));
        // then 1 goes to 0, 2 to 1, 3 to 2, 4 to 3, 5 to 4: as 8 is SEALED with 34, it is poorer and goes to 1
        sweep(2, 2, 6 + 4 * 50, 100 * live / (206 + live));
        x.pick(3);
        sweep(1, 1, 16 + 4 * 50, 100 * live / (216 + live));
        due("it is on still", 3, () -> x.count(14));
        due("with one left", 1, () -> x.count(15));
        due("nothing is WRITTEN BACK", 0, () -> x.count(16));
        due("nothing is FREE", 3, () -> x.count(10));
        due("nothing is a RUN", 0, () -> x.count(4));
        // twelve that are DEAD: six and no more
        store(50, 40, 16, 4);
        for (int i = 0; i < 12; i++) {
            x.put(i, 40, i);
        }
        for (int n = 1; n <= 6; n++) {
            sweep(n, n, 6 + 50 * n, 0);
        }
    }

    /** "or behind STEPS that do not come to their end: how many came to their end, SPARE then, LIVE of all then". */
    private static void sweepsWithoutRoom() {
        full();
        sweep(6, 0, 6, 100 * 528 / 534);
        // 0: 12, 12 and 12 bytes; 1 to 10: 44; 11 has 26 left: two of them go there, the third has no room
        store(50, 0, 16, 4);
        x.put(0, 8, 0);
        x.put(1, 8, 1);
        x.put(2, 8, 2);
        for (int key = 3; key < 13; key++) {
            x.put(key, 40, key);
        }
        x.put(13, 20, 13);
        int live = 36 + 440 + 24;
        sweep(1, 0, 2, 100 * live / (2 + live + 24));
        sweep(6, 0, 2, 100 * live / (2 + live + 24));
        due("nothing is WRITTEN", live, () -> x.count(18));
        due("nothing is on", -1, () -> x.count(14));
        // all of 0 fits: then 1 goes there, and 2 to 1, and so on
        store(50, 0, 16, 4);
        x.put(0, 8, 0);
        x.put(1, 8, 1);
        for (int key = 3; key < 13; key++) {
            x.put(key, 40, key);
        }
        x.put(13, 20, 13);
        due("one", 1, () -> x.sweep(1, 0));
        due("its SPARE", 2 + 50, () -> x.sweep(1, 1));
        due("six", 6, () -> x.sweep(6, 0));
    }

    /** "TRACES of a KEY: RECORDS of it in SEGMENTS: how many, their SIZES together, SEGMENTS that have one, as bits." */
    private static void traces() {
        x = new AsideStore();
        for (int what = 0; what < 3; what++) {
            int w = what;
            due("none", 0, () -> x.traces(0, w));
        }
        due("what 3", Check.ELEMENT, () -> x.traces(0, 3));
        store(50, 40, 2, 1);
        for (int i = 0; i < 12; i++) {
            x.put(5, 40, i);
        }
        x.drop(5);
        due("all", 13, () -> x.traces(5, 0));
        due("SIZES", 12 * 44 + 4, () -> x.traces(5, 1));
        due("twelve bits", 4095, () -> x.traces(5, 2));
        x.pick(4);
        x.step(1);
        due("4 is FREE", 4095 - 16, () -> x.traces(5, 2));
        due("one fewer", 12, () -> x.traces(5, 0));
        due("though it has no ENTRY but DROPPED", 1, () -> x.key(5, 2));
        x.merge();
        due("nor that", 0, () -> x.key(5, 2));
        due("they are there", 12, () -> x.traces(5, 0));
    }

    /** "REPLAY: how many RECORDS a CRASH now would put into the TABLE." */
    private static void replay() {
        x = new AsideStore();
        due("none", 0, () -> x.count(27));
        x.put(1, 1, 1);
        due("above SECURED", 0, () -> x.count(27));
        x.sync();
        due("at SECURED", 1, () -> x.count(27));
        x.put(1, 2, 1);
        x.drop(1);
        due("above SECURED", 1, () -> x.count(27));
        x.sync();
        due("RECORDS of one KEY", 3, () -> x.count(27));
        x.flush();
        due("at MARK", 0, () -> x.count(27));
        x.put(1, 2, 1);
        x.sync();
        due("above MARK", 1, () -> x.count(27));
        x.crash();
        due("a CRASH leaves them", 1, () -> x.count(27));
    }

    private static void would(int segment, int... answers) {
        for (int i = 0; i < 3; i++) {
            int what = i;
            due("would " + segment + ", what " + what, answers[i], () -> x.would(segment, what));
        }
    }

    /** "WOULD of a SEGMENT: .. by how much SPARE would be more (below 0, if less) .. none, if it could not be PICKED". */
    private static void would() {
        store(50, 8, 16, 4);
        would(0, -1000, -1000, -1000);
        would(11, -1000, -1000, -1000);
        due("what 3", Check.ELEMENT, () -> x.would(0, 3));
        x.put(1, 8, 1);
        x.put(2, 40, 2);
        would(1, -1000, -1000, -1000);
        // none LIVE: all bytes are more, and the FLUSH has two ENTRIES
        would(0, 0, 50, 2);
        x.flush();
        would(0, 0, 50, 0);
        x.pick(0);
        would(0, -1000, -1000, -1000);
        x.step(1);
        would(0, -1000, -1000, -1000);
        // 44 go to 0, as 6 are left in 1, and these are lost
        x.put(3, 2, 3);
        would(1, -1000, -1000, -1000);
        x.put(4, 20, 4);
        due("1 is SEALED", 2, () -> x.segment(1, 0));
        would(1, 1, 50 - 44 - 26, 3);
        // what was WRITTEN BACK ahead does not count, nor do RUN ROWS ahead
        x.put(5, 40, 5);
        x.pick(1);
        x.step(1);
        due("WRITTEN BACK", 1, () -> x.count(16));
        due("4 lies alone", 1, () -> x.pick(x.key(4, 4)));
        x.quit();
        would(x.key(4, 4), 1, 50 - 24 - 6, 1);
        // just as much as before: 0
        store(50, 0, 16, 4);
        x.put(1, 40, 1);
        x.put(2, 40, 2);
        would(0, 1, 50 - 44 - 6, 2);
        // with a full TABLE and all the RUNS that may be: FLUSH of two, FLUSH of one, MERGE
        store(50, 0, 2, 1);
        x.put(1, 40, 1);
        x.put(2, 40, 2);
        x.put(3, 40, 3);
        x.put(4, 40, 4);
        due("one RUN", 1, () -> x.count(4));
        due("a full TABLE", 2, () -> x.count(5));
        // FLUSH of 3 and 4, MERGE of four, then FLUSH of 1, MERGE of four
        would(0, 1, 50 - 44 - 6, 2 + 4 + 1 + 4);
    }

    /** "or STEPS would not come to their end." */
    private static void wouldWithoutRoom() {
        full();
        for (int segment = 0; segment < 12; segment++) {
            would(segment, -1000, -1000, -1000);
        }
        store(50, 0, 16, 4);
        x.put(0, 22, 0);
        x.put(1, 10, 1);
        for (int key = 2; key < 12; key++) {
            x.put(key, 40, key);
        }
        x.put(12, 6, 12);
        due("40 are left", 40, () -> x.count(22));
        would(0, 2, 50 - 40, 13);
        x.put(13, 1, 13);
        due("35 are left: no room for the second", 35, () -> x.count(22));
        would(0, -1000, -1000, -1000);
        x.drop(1);
        due("31 are left: for the first", 31, () -> x.count(22));
        would(0, 1, 50 - 26, 14);
    }

    private static void row(int k, int... answers) {
        for (int i = 0; i < 3; i++) {
            int what = i;
            due("row " + k + ", what " + what, answers[i], () -> x.log(k, what));
        }
    }

    /** Promise 33: "NONE without"; THE LOG: "the latest NUMBER ahead of it .. since STORE". */
    private static void theLog() {
        x = new AsideStore();
        row(0, -1, -1, -1);
        row(-1, -1, -1, -1);
        due("what 3", Check.ELEMENT, () -> x.log(0, 3));
        due("what -1", Check.ELEMENT, () -> x.log(0, -1));
        store(50, 0, 2, 1);
        x.put(1, 40, 1);
        x.put(2, 40, 2);
        x.put(3, 40, 3);
        // with a full TABLE the FLUSH is ahead of the SEALED one
        row(0, 4, 0, 1);
        row(1, 0, 2, 2);
        row(2, 4, 1, 2);
        row(3, -1, -1, -1);
        x.drop(2);
        x.pick(1);
        x.step(1);
        row(3, 0, 2, 4);
        row(4, 1, 2, 4);
        row(5, 2, 1, 4);
        x.put(4, 40, 4);
        x.crash();
        row(6, 4, 2, 4);
        row(7, 3, 1, 5);
        x.crash();
        row(8, 3, 0, 4);
        due("rows", 9, () -> x.count(26));
        x.flush();
        x.merge();
        due("FLUSH of none and MERGE of one have no row", 9, () -> x.count(26));
        row(9, -1, -1, -1);
        x.store(50, 0, 2, 1);
        due("since STORE", 0, () -> x.count(26));
        row(0, -1, -1, -1);
    }

    /** "THE LOG: the latest 30 rows .. the eldest first". */
    private static void thirtyRows() {
        x = new AsideStore();
        for (int i = 1; i <= 33; i++) {
            for (int n = 0; n < i % 7; n++) {
                x.put(1, 1, 1);
            }
            x.crash();
            int rows = i;
            due("rows", Math.min(30, rows), () -> x.count(26));
            row(Math.min(29, i - 1), 3, i % 7, i % 7);
            row(Math.min(30, i), -1, -1, -1);
        }
        // the rows of 1, 2 and 3 are gone
        for (int k = 0; k < 30; k++) {
            row(k, 3, (k + 4) % 7, (k + 4) % 7);
        }
        row(30, -1, -1, -1);
        row(-1, -1, -1, -1);
        x.undo();
        row(0, 3, 3, 3);
        row(29, 3, 4, 4);
    }

    /** Promise 36: "NONE for another what." */
    private static void counts() {
        full();
        for (int what : new int[] {-1, 28, 29, 100, Integer.MIN_VALUE, Integer.MAX_VALUE}) {
            due("count " + what, -1, () -> x.count(what));
        }
        due("the first", 50, () -> x.count(0));
        x.sync();
        due("the last", 12, () -> x.count(27));
    }
}
