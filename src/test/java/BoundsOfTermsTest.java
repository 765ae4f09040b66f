/** 'Terms', sentence by sentence, as far as they name least and greatest values, the empty and the full. */
public final class BoundsOfTermsTest {
    private static AsideStore x;

    public static void main(String[] args) {
        keysAre0To63();
        lengthsAre1To40();
        seedsAre0To255();
        bytesWrapAround();
        termsHaveBounds();
        roomIsWhatASegmentHas();
        shortIsThatLengthAtMost();
        mostIsWhatTheTableMayHave();
        runsIsHowManyThereMayBe();
        segmentsAre0To11();
        numbersAre1On();
        recordsLieOneBehindTheOther();
        sizes();
        securedAndMarkAtFirst();
        oneEntryOfAKey();
        theCurrentOne();
        fiftyRecordsInASegment();
        Check.end();
    }

    private static void due(String what, Object due, Check.Call call) {
        Check.due(what, due, call);
    }

    private static void store(int room, int brief, int most, int runs) {
        x = new AsideStore();
        x.store(room, brief, most, runs);
    }

    /** "KEYS 0 to 63." */
    private static void keysAre0To63() {
        x = new AsideStore();
        due("put -1", Check.INDEX, () -> x.put(-1, 1, 0));
        due("put 0", 1, () -> x.put(0, 9, 3));
        due("put 63", 2, () -> x.put(63, 10, 4));
        due("put 64", Check.INDEX, () -> x.put(64, 1, 0));
        for (int key : new int[] {0, 63}) {
            int length = key == 0 ? 9 : 10;
            due("key", length, () -> x.key(key, 0));
            due("octet", key == 0 ? 3 : 4, () -> x.octet(key, 0));
            due("from", key, () -> x.from(key, 0));
            due("below", key == 0 ? 0 : 1, () -> x.below(key));
            due("rank", key == 0 ? 0 : 1, () -> x.rank(key, false));
            due("twin", -1, () -> x.rank(key, true));
            due("traces", 4 + length, () -> x.traces(key, 1));
        }
        due("drop 63", 3, () -> x.drop(63));
        due("drop 0", 4, () -> x.drop(0));
        due("text, put 63", 1, () -> Check.told(x, "put 63 1 0"));
        due("text, put 0", 1, () -> Check.told(x, "put 0 1 0"));
        due("text, put 64", Check.ARGUMENT, () -> Check.told(x, "put 64 1 0"));
        due("its KEY is wrong", 4, () -> x.fault());
        due("text, drop 63", 1, () -> Check.told(x, "drop 63"));
        due("text, drop 64", Check.ARGUMENT, () -> Check.told(x, "drop 64"));
        due("its KEY is wrong", 5, () -> x.fault());
        // all of them at once: 63 is the last that goes in by KEYS and comes out by them
        store(200, 0, 16, 4);
        for (int key = 63; key >= 0; key--) {
            x.put(key, 1, key);
        }
        due("all have VALUES", 64, () -> x.count(6));
        x.flush();
        x.merge();
        due("all are in one RUN", 64, () -> x.run(0, 0));
        for (int key = 0; key < 64; key++) {
            int k = key;
            due("k-th ENTRY", k, () -> x.entry(0, k));
            due("k-th KEY", k, () -> x.from(0, k));
            due("below", k, () -> x.below(k));
            due("rank", k, () -> x.rank(k, false));
            due("the k-th by age", 63 - k, () -> x.old(k));
        }
        due("no 64th ENTRY", -1, () -> x.entry(0, 64));
        due("no 64th KEY", -1, () -> x.from(0, 64));
        due("no 64th by age", -1, () -> x.old(64));
    }

    /** "A VALUE: LENGTH 1 to 40". */
    private static void lengthsAre1To40() {
        x = new AsideStore();
        due("put 0", Check.ARGUMENT, () -> x.put(5, 0, 0));
        due("put 1", 1, () -> x.put(5, 1, 0));
        due("LENGTH", 1, () -> x.key(5, 0));
        due("put 40", 2, () -> x.put(5, 40, 0));
        due("LENGTH", 40, () -> x.key(5, 0));
        due("put 41", Check.ARGUMENT, () -> x.put(5, 41, 0));
        due("holds 0", Check.ARGUMENT, () -> x.holds(0));
        due("holds 1", 99, () -> x.holds(1));
        due("holds 40", 1 + 22, () -> x.holds(40));
        due("holds 41", Check.ARGUMENT, () -> x.holds(41));
        due("text, 0", Check.ARGUMENT, () -> Check.told(x, "put 5 0 0"));
        due("it is wrong", 6, () -> x.fault());
        due("text, 1", 1, () -> Check.told(x, "put 5 1 0"));
        due("text, 40", 1, () -> Check.told(x, "put 5 40 0"));
        due("text, 41", Check.ARGUMENT, () -> Check.told(x, "put 5 41 0"));
        due("it is wrong", 6, () -> x.fault());
    }

    /** "SEED 0 to 255". */
    private static void seedsAre0To255() {
        x = new AsideStore();
        due("put -1", Check.ARGUMENT, () -> x.put(5, 1, -1));
        due("put 0", 1, () -> x.put(5, 1, 0));
        due("SEED", 0, () -> x.key(5, 1));
        due("its byte", 0, () -> x.octet(5, 0));
        due("put 255", 2, () -> x.put(5, 1, 255));
        due("SEED", 255, () -> x.key(5, 1));
        due("its byte", 255, () -> x.octet(5, 0));
        due("put 256", Check.ARGUMENT, () -> x.put(5, 1, 256));
        due("text, 0", 1, () -> Check.told(x, "put 5 1 0"));
        due("text, 255", 1, () -> Check.told(x, "put 5 1 255"));
        due("text, 256", Check.ARGUMENT, () -> Check.told(x, "put 5 1 256"));
        due("it is wrong", 8, () -> x.fault());
    }

    /** "byte i of it is what is left of SEED and 7 times i, together, by 256." */
    private static void bytesWrapAround() {
        x = new AsideStore();
        x.put(1, 40, 255);
        x.put(2, 40, 249);
        x.put(3, 40, 248);
        x.put(4, 40, 0);
        due("255 and 7", 6, () -> x.octet(1, 1));
        due("249 and 7 are 256", 0, () -> x.octet(2, 1));
        due("248 and 7 are 255", 255, () -> x.octet(3, 1));
        due("then it wraps", 6, () -> x.octet(3, 2));
        due("36 times 7", 252, () -> x.octet(4, 36));
        due("37 times 7", 3, () -> x.octet(4, 37));
        due("255 and 39 times 7 wrap twice", (255 + 273) % 256, () -> x.octet(1, 39));
        due("no byte 40", -1, () -> x.octet(1, 40));
    }

    /** "TERMS: ROOM 50 to 200 (100 at first) .. SHORT 0 to 40 (8) .. MOST 2 to 16 (6) .. RUNS 1 to 4 (3)". */
    private static void termsHaveBounds() {
        int[] first = {100, 8, 6, 3};
        int[][] bounds = {{50, 200}, {0, 40}, {2, 16}, {1, 4}};
        for (int i = 0; i < 4; i++) {
            int term = i;
            x = new AsideStore();
            due("TERM " + i + " at first", first[i], () -> x.count(term));
            for (int side = 0; side < 2; side++) {
                int edge = bounds[i][side];
                int[] in = first.clone();
                in[i] = edge;
                due("just inside", 11, () -> x.store(in[0], in[1], in[2], in[3]));
                due("TERM " + i, edge, () -> x.count(term));
                due("by a text", 1, () -> Check.told(x, "store " + in[0] + " " + in[1] + " " + in[2] + " " + in[3]));
                due("TERM " + i, edge, () -> x.count(term));
                int[] out = first.clone();
                out[i] = edge + (side == 0 ? -1 : 1);
                due("just outside", Check.ARGUMENT, () -> x.store(out[0], out[1], out[2], out[3]));
                due("TERM " + i + " stays", edge, () -> x.count(term));
                if (out[i] >= 0) {
                    String text = "store " + out[0] + " " + out[1] + " " + out[2] + " " + out[3];
                    due(text, Check.ARGUMENT, () -> Check.told(x, text));
                    int where = 6 + (i > 0 ? 4 : 0) + (i > 1 ? 2 : 0) + (i > 2 ? 2 : 0);
                    due(text + ", fault", where, () -> x.fault());
                    due("TERM " + i + " stays", edge, () -> x.count(term));
                }
            }
        }
    }

    /** "ROOM ..: bytes that a SEGMENT has". */
    private static void roomIsWhatASegmentHas() {
        for (int room : new int[] {50, 51, 200}) {
            store(room, 40, 16, 4);
            due("SPARE", 12 * room, () -> x.count(22));
            for (int left = room; left > 0;) {
                int size = left > 88 ? 44 : left > 44 ? left / 2 : left;
                x.put(1, size - 4, 0);
                left -= size;
            }
            due("all bytes are taken", room, () -> x.segment(0, 2));
            due("and it is OPEN", 1, () -> x.segment(0, 0));
            due("SPARE", 11 * room, () -> x.count(22));
            x.put(1, 1, 0);
            due("one more is not in it", room, () -> x.segment(0, 2));
            due("SEALED", 2, () -> x.segment(0, 0));
            due("but in the next", 5, () -> x.segment(1, 2));
        }
    }

    /** "SHORT ..: VALUES of that LENGTH at most are short, others long". */
    private static void shortIsThatLengthAtMost() {
        store(200, 0, 16, 4);
        x.put(1, 1, 0);
        due("with 0 the shortest is long", 3, () -> x.key(1, 2));
        store(200, 40, 16, 4);
        x.put(1, 40, 0);
        due("with 40 the longest is short", 2, () -> x.key(1, 2));
        store(200, 1, 16, 4);
        x.put(1, 1, 0);
        x.put(2, 2, 0);
        due("1", 2, () -> x.key(1, 2));
        due("2", 3, () -> x.key(2, 2));
        store(200, 39, 16, 4);
        x.put(1, 39, 0);
        x.put(2, 40, 0);
        due("39", 2, () -> x.key(1, 2));
        due("40", 3, () -> x.key(2, 2));
        due("LIVE of the long one alone", 44, () -> x.count(12));
        due("DEAD is the short one", 43, () -> x.count(13));
    }

    /** "MOST ..: entries that the TABLE may have". */
    private static void mostIsWhatTheTableMayHave() {
        for (int most : new int[] {2, 3, 16}) {
            store(200, 8, most, 4);
            for (int key = 0; key < most; key++) {
                x.put(key, 1, key);
            }
            due("as many as may be", most, () -> x.count(5));
            due("no RUN", 0, () -> x.count(4));
            x.put(most, 1, 0);
            due("one more", 1, () -> x.count(5));
            due("a RUN", 1, () -> x.count(4));
            due("of all ahead of it", most, () -> x.run(0, 0));
        }
    }

    /** "RUNS 1 to 4 (3): how many there may be." */
    private static void runsIsHowManyThereMayBe() {
        for (int may = 1; may <= 4; may++) {
            store(200, 8, 16, may);
            for (int run = 1; run <= may; run++) {
                int runs = run;
                x.put(run, 1, run);
                due("as many as may be", runs, () -> x.flush());
            }
            due("no MERGE", may, () -> x.count(19));
            x.put(20, 1, 0);
            due("one more", 1, () -> x.flush());
            due("of all", may + 1, () -> x.run(0, 0));
            due("RUN ROWS", 2 * may + 2, () -> x.count(19));
        }
    }

    /** "SEGMENTS 0 to 11, each FREE, OPEN or SEALED; at first 0 is OPEN, the others FREE." */
    private static void segmentsAre0To11() {
        x = new AsideStore();
        due("-1", Check.INDEX, () -> x.segment(-1, 0));
        due("0", 1, () -> x.segment(0, 0));
        for (int segment = 1; segment < 12; segment++) {
            int s = segment;
            due("FREE " + s, 0, () -> x.segment(s, 0));
        }
        due("12", Check.INDEX, () -> x.segment(12, 0));
        due("FREE ones", 11, () -> x.count(10));
        due("the OPEN one", 0, () -> x.count(11));
        store(50, 0, 16, 4);
        for (int segment = 0; segment < 12; segment++) {
            x.put(segment, 40, 0);
        }
        for (int segment = 0; segment < 11; segment++) {
            int s = segment;
            due("SEALED " + s, 2, () -> x.segment(s, 0));
        }
        due("11 is OPEN", 1, () -> x.segment(11, 0));
        due("none is FREE", 0, () -> x.count(10));
        due("the OPEN one", 11, () -> x.count(11));
        due("record of 11", 11, () -> x.record(11, 0, 0));
        due("traces of 11", 1 << 11, () -> x.traces(11, 2));
        due("pick 11: it is OPEN", Check.STATE, () -> x.pick(11));
        due("pick 12", Check.INDEX, () -> x.pick(12));
        x.drop(0);
        due("the last SEALED one", 1, () -> x.pick(10));
        x.quit();
        due("text, pick 11", Check.ARGUMENT, () -> Check.told(x, "pick 11"));
        due("refused", 0, () -> x.fault());
        due("by", 4, () -> x.why());
        due("text, pick 12", Check.ARGUMENT, () -> Check.told(x, "pick 12"));
        due("its number is wrong", 5, () -> x.fault());
        due("text, pick 0", 1, () -> Check.told(x, "pick 0"));
    }

    /** "its NUMBER (1 on, as they are appended)". */
    private static void numbersAre1On() {
        x = new AsideStore();
        due("none yet", 0, () -> x.count(7));
        due("the first", 1, () -> x.put(9, 9, 9));
        due("the second, of the same KEY", 2, () -> x.put(9, 9, 9));
        due("the third, a DROP", 3, () -> x.drop(9));
        due("refused: none", Check.STATE, () -> x.drop(9));
        due("the fourth", 4, () -> x.put(9, 9, 9));
        due("the latest", 4, () -> x.count(7));
    }

    /** "where it begins in its SEGMENT (from 0 on, one behind the other)". */
    private static void recordsLieOneBehindTheOther() {
        store(50, 0, 16, 4);
        x.put(1, 1, 0);
        x.drop(1);
        x.put(2, 40, 0);
        due("first", 0, () -> x.record(0, 0, 3));
        due("behind 5", 5, () -> x.record(0, 1, 3));
        due("44 do not fit behind 9", 0, () -> x.record(1, 0, 3));
        store(200, 0, 16, 4);
        for (int key = 0; key < 39; key++) {
            x.put(key, 1, 0);
        }
        due("far behind", 190, () -> x.record(0, 38, 3));
        x.put(40, 1, 0);
        due("the last place for one", 195, () -> x.key(40, 5));
    }

    /** "SIZE: 4 and LENGTH (0 of a DROP)." */
    private static void sizes() {
        x = new AsideStore();
        x.put(1, 1, 0);
        due("5", 5, () -> x.count(18));
        x.put(1, 40, 0);
        due("and 44", 49, () -> x.count(18));
        x.drop(1);
        due("and 4", 53, () -> x.count(18));
        due("together", 53, () -> x.traces(1, 1));
        due("taken", 53, () -> x.segment(0, 2));
        due("no LENGTH", -1, () -> x.record(0, 2, 1));
    }

    /** "SECURED: the greatest NUMBER that a crash does not lose (0 at first); MARK: .. in RUNS (0)." */
    private static void securedAndMarkAtFirst() {
        x = new AsideStore();
        due("SECURED", 0, () -> x.count(8));
        due("MARK", 0, () -> x.count(9));
        x.put(1, 20, 0);
        due("SECURED", 0, () -> x.count(8));
        x.sync();
        due("SECURED", 1, () -> x.count(8));
        due("MARK", 0, () -> x.count(9));
        x.put(2, 20, 0);
        x.flush();
        due("SECURED", 2, () -> x.count(8));
        due("MARK", 2, () -> x.count(9));
        x.put(3, 20, 0);
        x.crash();
        due("SECURED", 2, () -> x.count(8));
        due("MARK", 2, () -> x.count(9));
        x.store(100, 8, 6, 3);
        due("SECURED", 0, () -> x.count(8));
        due("MARK", 0, () -> x.count(9));
    }

    /** "The TABLE has at most one ENTRY of a KEY; each RUN too." */
    private static void oneEntryOfAKey() {
        x = new AsideStore();
        x.put(1, 20, 0);
        x.put(1, 2, 0);
        x.drop(1);
        x.put(1, 21, 0);
        due("in the TABLE", 1, () -> x.count(5));
        due("in all", 1, () -> x.key(1, 8));
        x.flush();
        due("in the RUN", 1, () -> x.run(0, 0));
        x.put(1, 22, 0);
        due("in all", 2, () -> x.key(1, 8));
        x.flush();
        due("in all", 2, () -> x.key(1, 8));
        x.merge();
        due("in all", 1, () -> x.key(1, 8));
        due("in the RUN", 1, () -> x.run(0, 0));
    }

    /** "The CURRENT one of a KEY: that of the TABLE, else of the latest RUN that has one, and on to the eldest; none." */
    private static void theCurrentOne() {
        store(200, 8, 16, 4);
        for (int run = 1; run <= 4; run++) {
            x.put(0, run, 0);
            for (int key = 4; key >= run; key--) {
                x.put(key, 10 * run, key);
            }
            x.flush();
        }
        x.put(0, 40, 0);
        due("of the TABLE", 40, () -> x.key(0, 0));
        due("found", 0, () -> x.key(0, 7));
        for (int key = 1; key <= 4; key++) {
            int k = key;
            due("of the RUN that has one", 10 * k, () -> x.key(k, 0));
            due("found", 5 - k, () -> x.key(k, 7));
            due("ENTRIES of it", k, () -> x.key(k, 8));
        }
        due("none", 0, () -> x.key(5, 2));
        due("found nowhere", -1, () -> x.key(5, 7));
        due("no ENTRIES of it", 0, () -> x.key(5, 8));
        x.drop(0);
        due("DROPPED is CURRENT, too", 1, () -> x.key(0, 2));
        due("found", 0, () -> x.key(0, 7));
        due("ENTRIES of it", 5, () -> x.key(0, 8));
        due("no VALUE below it", -1, () -> x.key(0, 0));
    }

    /** The greatest ROOM and the least SIZE: fifty DROPS fill a SEGMENT. */
    private static void fiftyRecordsInASegment() {
        store(200, 0, 16, 4);
        for (int key = 0; key < 59; key++) {
            x.put(key, 1, key);
        }
        x.put(59, 40, 0);
        x.put(60, 40, 0);
        x.put(61, 13, 0);
        due("two are full", 200, () -> x.segment(1, 2));
        due("FREE ones", 10, () -> x.count(10));
        for (int key = 0; key < 50; key++) {
            x.drop(key);
        }
        due("RECORDS", 50, () -> x.segment(2, 1));
        due("full", 200, () -> x.segment(2, 2));
        due("OPEN", 2, () -> x.count(11));
        due("the last one", 49, () -> x.record(2, 49, 0));
        due("where it begins", 196, () -> x.record(2, 49, 3));
        due("its NUMBER", 62 + 50, () -> x.record(2, 49, 2));
        due("the greatest", 62 + 50, () -> x.segment(2, 5));
        due("no more", -1, () -> x.record(2, 50, 0));
        x.drop(50);
        due("the next", 3, () -> x.count(11));
        due("all are DEAD", 200, () -> x.segment(2, 6));
        due("none NOTED", 0, () -> x.pick(2));
        due("none", 0, () -> x.step(1));
        due("FREE", 0, () -> x.segment(2, 0));
        // forty is the most that can be NOTED, and twice as many as a STEP takes
        store(200, 0, 16, 4);
        for (int key = 0; key < 41; key++) {
            x.put(key, 1, key);
        }
        due("NOTED", 40, () -> x.pick(0));
        due("twenty", 20, () -> x.step(20));
        due("on", 0, () -> x.count(14));
        due("nineteen", 19, () -> x.step(19));
        due("on", 0, () -> x.count(14));
        due("the last", 1, () -> x.step(20));
        due("through", -1, () -> x.count(14));
        due("all WRITTEN BACK", 40, () -> x.count(16));
        due("all have VALUES", 41, () -> x.count(6));
    }
}
