/** ACTS (section 2 of 'Terms', promises 7 to 17), sentence by sentence: the empty, the full, the last and the one too many. */
public final class BoundsOfActsTest {
    private static AsideStore x;

    public static void main(String[] args) {
        storeIsAsAtFirst();
        appendingToTheLastByte();
        theLeastFreeOneIsOpened();
        putWithAFullTable();
        dropWithAFullTable();
        putWithoutRoom();
        dropWithoutRoom();
        dropWithoutAValue();
        syncOfNoneAndSome();
        flushOfNoneAndSome();
        flushWithMoreRunsThanMayBe();
        mergeOfNone();
        mergeOfOne();
        mergeOfSeveral();
        crashAtSecured();
        crashOpensTheLatest();
        crashWithoutRecords();
        crashAtMark();
        crashEndsACollection();
        numbersBehindACrash();
        Check.end();
    }

    private static void due(String what, Object due, Check.Call call) {
        Check.due(what, due, call);
    }

    private static void refused(String what, int why, Check.Call call) {
        String ahead = Picture.of(x);
        due(what, Check.STATE, call);
        due(what + ", why", why, () -> x.why());
        due(what + " changes nothing", ahead, () -> Picture.of(x));
    }

    private static void store(int room, int brief, int most, int runs) {
        x = new AsideStore();
        x.store(room, brief, most, runs);
    }

    /** Twelve SEGMENTS of 50 with 44 bytes each, of the KEYS 0 to 11: six bytes are left. */
    private static void full(int brief, int most) {
        store(50, brief, most, 4);
        for (int key = 0; key < 12; key++) {
            x.put(key, 40, key);
        }
    }

    /** "STORE: all is as at first, with these TERMS." */
    private static void storeIsAsAtFirst() {
        x = new AsideStore();
        String first = Picture.of(x);
        full(0, 2);
        x.drop(3);
        x.pick(3);
        x.step(1);
        x.merge();
        x.crash();
        x.pick(0);
        due("FREE ones", 11, () -> x.store(100, 8, 6, 3));
        due("all is as at first", first, () -> Picture.of(x));
        due("none is remembered", Check.STATE, () -> x.undo());
        due("why", 0, () -> x.why());
        due("NUMBERS, too", 1, () -> x.put(1, 20, 1));
        due("where it lies", 0, () -> x.key(1, 4));
        x = new AsideStore();
        x.store(50, 1, 2, 1);
        String other = Picture.of(x);
        full(0, 2);
        due("with other TERMS", 11, () -> x.store(50, 1, 2, 1));
        due("as at first with these", other, () -> Picture.of(x));
    }

    /** "it goes behind the last one in the OPEN SEGMENT; if that has not so many bytes left, that is SEALED". */
    private static void appendingToTheLastByte() {
        for (int over = -1; over <= 1; over++) {
            int more = over;
            store(50, 0, 16, 4);
            x.put(1, 20, 1);
            // 26 are left
            x.put(2, 22 + more, 2);
            due("where " + more + " lies", more <= 0 ? 0 : 1, () -> x.key(2, 4));
            due("where it begins", more <= 0 ? 24 : 0, () -> x.key(2, 5));
            due("0 is", more <= 0 ? 1 : 2, () -> x.segment(0, 0));
            due("the OPEN one", more <= 0 ? 0 : 1, () -> x.count(11));
            due("rows of THE LOG", more <= 0 ? 0 : 1, () -> x.count(26));
        }
        // a DROP needs four
        for (int left = 3; left <= 5; left++) {
            int bytes = left;
            store(50, 0, 16, 4);
            x.put(1, 20, 1);
            x.put(2, 22 - bytes, 2);
            due("DROP", 3, () -> x.drop(1));
            due("with " + bytes + " left", bytes < 4 ? 1 : 0, () -> x.count(11));
        }
    }

    /** "the least FREE one is OPEN, and it goes there." */
    private static void theLeastFreeOneIsOpened() {
        store(50, 0, 16, 4);
        for (int key = 0; key < 5; key++) {
            x.put(key, 40, key);
        }
        x.drop(3);
        x.drop(1);
        due("4 and 5 are taken", 5, () -> x.count(11));
        x.pick(3);
        x.step(1);
        x.pick(1);
        x.step(1);
        due("FREE: 1, 3, and 6 to 11", 8, () -> x.count(10));
        x.put(20, 40, 0);
        due("5 has room", 5, () -> x.key(20, 4));
        x.put(21, 40, 0);
        due("the least", 1, () -> x.key(21, 4));
        x.put(22, 40, 0);
        due("then 3", 3, () -> x.key(22, 4));
        x.put(23, 40, 0);
        due("then 6", 6, () -> x.key(23, 4));
    }

    /** "with a FULL TABLE (MOST ENTRIES, none of that KEY) a FLUSH comes ahead; .. the TABLE has its ENTRY". */
    private static void putWithAFullTable() {
        store(200, 8, 2, 4);
        x.put(1, 1, 1);
        x.put(1, 2, 1);
        x.put(1, 3, 1);
        due("one ENTRY", 1, () -> x.count(5));
        x.put(2, 1, 1);
        due("two: full", 2, () -> x.count(5));
        x.put(1, 4, 1);
        x.put(2, 4, 1);
        due("ENTRIES of these KEYS are in place of theirs", 2, () -> x.count(5));
        due("no FLUSH", 0, () -> x.count(4));
        due("SECURED", 0, () -> x.count(8));
        due("another KEY", 7, () -> x.put(3, 1, 1));
        due("a FLUSH ahead", 1, () -> x.count(4));
        due("SECURED: not its own", 6, () -> x.count(8));
        due("MARK: not its own", 6, () -> x.count(9));
        due("its ENTRY alone is in the TABLE", 1, () -> x.count(5));
        due("it", 3, () -> x.entry(-1, 0));
        due("THE LOG: a FLUSH", 0, () -> x.log(0, 0));
        due("of two", 2, () -> x.log(0, 1));
        due("ahead of it", 6, () -> x.log(0, 2));
        // a KEY of a RUN is none of the TABLE
        x.put(4, 1, 1);
        due("full again", 2, () -> x.count(5));
        x.put(1, 5, 1);
        due("a FLUSH ahead", 2, () -> x.count(4));
        due("its ENTRY alone", 1, () -> x.count(5));
    }

    /** "DROP likewise, DROPPED." */
    private static void dropWithAFullTable() {
        store(200, 8, 2, 4);
        x.put(1, 1, 1);
        x.put(2, 1, 1);
        due("a KEY of the full TABLE", 3, () -> x.drop(1));
        due("in its place", 2, () -> x.count(5));
        due("no FLUSH", 0, () -> x.count(4));
        due("DROPPED", 1, () -> x.key(1, 2));
        x.flush();
        x.put(3, 1, 1);
        x.put(4, 1, 1);
        due("a KEY of a RUN", 6, () -> x.drop(2));
        due("a FLUSH ahead", 2, () -> x.count(4));
        due("its ENTRY alone", 1, () -> x.count(5));
        due("DROPPED", 1, () -> x.key(2, 2));
        due("SECURED: not its own", 5, () -> x.count(8));
        due("DROPPED can be put anew", 7, () -> x.put(2, 3, 3));
        due("LENGTH", 3, () -> x.key(2, 0));
    }

    /** "1: there is no room (it does not fit, and no SEGMENT is FREE; no FLUSH then)." */
    private static void putWithoutRoom() {
        full(0, 2);
        due("the TABLE is full", 2, () -> x.count(5));
        refused("3 of 2", 1, () -> x.put(20, 3, 0));
        refused("40 of 2", 1, () -> x.put(20, 40, 0));
        refused("of a KEY that is there", 1, () -> x.put(11, 3, 0));
        int rows = x.count(19);
        due("2 of 2", 13, () -> x.put(20, 2, 0));
        due("why", 0, () -> x.why());
        due("a FLUSH ahead of it", true, () -> x.count(19) > rows);
        due("no byte is left", 0, () -> x.count(22));
        refused("the shortest", 1, () -> x.put(20, 1, 0));
        // with one FREE it fits
        full(0, 16);
        x.drop(5);
        x.pick(5);
        due("one becomes FREE", 0, () -> x.step(1));
        due("why", 14, () -> x.put(20, 40, 0));
        due("in it", 5, () -> x.key(20, 4));
        refused("and no more", 1, () -> x.put(21, 40, 0));
        refused("6 are left", 1, () -> x.put(21, 3, 0));
        due("two fit", 15, () -> x.put(21, 2, 0));
    }

    /** "DROP .. refused (1 ahead of 2)." */
    private static void dropWithoutRoom() {
        full(0, 16);
        due("4 of 6", 13, () -> x.drop(0));
        refused("4 of 2", 1, () -> x.drop(1));
        refused("of one that is DROPPED", 1, () -> x.drop(0));
        refused("of one without ENTRIES", 1, () -> x.drop(63));
        full(0, 16);
        x.put(0, 1, 0);
        refused("4 of 1", 1, () -> x.drop(1));
        full(0, 2);
        due("with a full TABLE and room", 13, () -> x.drop(0));
        full(0, 2);
        x.put(0, 2, 0);
        refused("4 of 0, and no FLUSH", 1, () -> x.drop(5));
    }

    /** "2: a DROP of a KEY that has no VALUE (no CURRENT ENTRY, or that is DROPPED)." */
    private static void dropWithoutAValue() {
        x = new AsideStore();
        refused("no ENTRY", 2, () -> x.drop(0));
        x.put(0, 1, 0);
        due("a short one", 2, () -> x.drop(0));
        refused("DROPPED in the TABLE", 2, () -> x.drop(0));
        x.flush();
        refused("DROPPED in a RUN", 2, () -> x.drop(0));
        x.merge();
        refused("no ENTRY any more", 2, () -> x.drop(0));
        x.put(0, 40, 0);
        x.flush();
        x.put(1, 1, 1);
        x.flush();
        due("a long one in an elder RUN", 5, () -> x.drop(0));
        x.crash();
        due("the DROP is lost", 5, () -> x.drop(0));
        x.sync();
        x.crash();
        refused("DROPPED, as it comes back", 2, () -> x.drop(0));
    }

    /** "SYNC: SECURED is the latest NUMBER."; "how many RECORDS are SECURED by it." */
    private static void syncOfNoneAndSome() {
        x = new AsideStore();
        due("none", 0, () -> x.sync());
        due("remembered all the same", 1, () -> x.count(25));
        x.put(1, 1, 1);
        due("one", 1, () -> x.sync());
        due("none more", 0, () -> x.sync());
        x.put(1, 1, 1);
        x.drop(1);
        due("two", 2, () -> x.sync());
        due("SECURED", 3, () -> x.count(8));
        due("the TABLE stays", 1, () -> x.count(5));
        due("MARK stays", 0, () -> x.count(9));
        x.put(2, 2, 2);
        x.flush();
        due("a FLUSH has SECURED it", 0, () -> x.sync());
        x.put(2, 2, 2);
        x.crash();
        due("a CRASH has lost it", 0, () -> x.sync());
    }

    /** "FLUSH: SYNC; if the TABLE has ENTRIES, they are the latest RUN, the TABLE has none; MARK is the latest NUMBER". */
    private static void flushOfNoneAndSome() {
        store(200, 8, 16, 4);
        due("of none: no RUN", 0, () -> x.flush());
        due("no row", 0, () -> x.count(26));
        x.put(1, 20, 1);
        due("of one", 1, () -> x.flush());
        due("SECURED", 1, () -> x.count(8));
        due("MARK", 1, () -> x.count(9));
        due("the TABLE", 0, () -> x.count(5));
        due("again, of none", 1, () -> x.flush());
        due("no further row", 1, () -> x.count(26));
        due("RUN ROWS", 1, () -> x.count(19));
        x.put(2, 2, 2);
        x.drop(2);
        due("of a DROPPED one", 2, () -> x.flush());
        due("it is in the RUN", 1, () -> x.run(0, 3));
        due("the latest is 0", 2, () -> x.entry(0, 0));
        due("the elder is 1", 1, () -> x.entry(1, 0));
        due("MARK: all NUMBERS, not those of ENTRIES", 3, () -> x.count(9));
    }

    /** "if there are more RUNS than may be, MERGE." */
    private static void flushWithMoreRunsThanMayBe() {
        store(200, 8, 16, 1);
        x.put(1, 20, 1);
        due("the one that may be", 1, () -> x.flush());
        due("its MERGE is none", 1, () -> x.count(26));
        x.put(2, 2, 2);
        due("two are too many", 1, () -> x.flush());
        due("both are in it", 2, () -> x.run(0, 0));
        due("rows: two FLUSHES and a MERGE", 3, () -> x.count(26));
        due("ENTRIES that went in", 1 + 1 + 2, () -> x.count(19));
        x.drop(1);
        x.drop(2);
        due("and none is left", 0, () -> x.flush());
        due("a MERGE to none", 0, () -> x.log(4, 1));
        due("it is one", 1, () -> x.log(4, 0));
        store(200, 8, 16, 4);
        for (int run = 0; run < 4; run++) {
            x.put(run, 20, run);
            x.flush();
        }
        due("four may be", 4, () -> x.flush());
        x.put(0, 21, 7);
        due("five may not", 1, () -> x.flush());
        due("four KEYS", 4, () -> x.run(0, 0));
        due("the latest of 0", 21, () -> x.key(0, 0));
    }

    /** "MERGE: .. with one RUN or none nothing comes of it". */
    private static void mergeOfNone() {
        x = new AsideStore();
        due("none", 0, () -> x.merge());
        due("no RUN", 0, () -> x.count(4));
        x.put(1, 1, 1);
        due("the TABLE is no RUN", 0, () -> x.merge());
        due("it stays", 1, () -> x.count(5));
        due("SECURED stays", 0, () -> x.count(8));
        due("no row", 0, () -> x.count(26));
        due("no RUN ROWS", 0, () -> x.count(19));
        due("remembered all the same", 3, () -> x.count(25));
    }

    /** "with one RUN .. nothing comes of it but that DROPPED ones go"; "no RUN, if none is left". */
    private static void mergeOfOne() {
        x = new AsideStore();
        x.put(1, 20, 1);
        x.put(2, 2, 2);
        x.flush();
        due("none fewer", 0, () -> x.merge());
        due("RUN ROWS", 2, () -> x.count(19));
        due("rows of THE LOG", 1, () -> x.count(26));
        x.store(100, 8, 6, 3);
        x.put(1, 20, 1);
        x.put(2, 2, 2);
        x.drop(2);
        x.put(3, 3, 3);
        x.drop(3);
        x.flush();
        due("two fewer", 2, () -> x.merge());
        due("one is left", 1, () -> x.run(0, 0));
        due("none is DROPPED", 0, () -> x.run(0, 3));
        due("RUN ROWS", 3, () -> x.count(19));
        due("rows of THE LOG", 1, () -> x.count(26));
        x.store(100, 8, 6, 3);
        x.put(2, 2, 2);
        x.drop(2);
        x.flush();
        due("one fewer", 1, () -> x.merge());
        due("no RUN is left", 0, () -> x.count(4));
        due("none fewer", 0, () -> x.merge());
        due("rows of THE LOG", 1, () -> x.count(26));
    }

    /** "all RUNS become one: of each KEY the ENTRY of the latest RUN that has one, DROPPED ones left away". */
    private static void mergeOfSeveral() {
        store(200, 8, 16, 4);
        x.put(1, 11, 1);
        x.put(2, 12, 2);
        x.put(3, 13, 3);
        x.flush();
        x.put(1, 21, 1);
        x.drop(2);
        x.flush();
        x.put(1, 31, 1);
        x.put(2, 32, 2);
        x.drop(3);
        x.flush();
        x.put(4, 4, 4);
        x.drop(4);
        due("eight to two", 6, () -> x.merge());
        due("one RUN", 1, () -> x.count(4));
        due("1, 2", 2, () -> x.run(0, 0));
        due("the latest of 1", 31, () -> x.key(1, 0));
        due("the latest of 2 is no DROP", 32, () -> x.key(2, 0));
        due("3 has no ENTRY at all", 0, () -> x.key(3, 2));
        due("4 is DROPPED in the TABLE", 1, () -> x.key(4, 2));
        due("the row", 1, () -> x.log(3, 0));
        due("ENTRIES of it", 2, () -> x.log(3, 1));
        due("RUN ROWS", 8 + 2, () -> x.count(19));
        store(200, 8, 16, 4);
        x.put(1, 11, 1);
        x.flush();
        x.drop(1);
        x.flush();
        due("two to none", 2, () -> x.merge());
        due("no RUN", 0, () -> x.count(4));
        due("no ENTRY", 0, () -> x.key(1, 8));
        due("RUN ROWS", 2, () -> x.count(19));
        due("a row", 3, () -> x.count(26));
        due("of none", 0, () -> x.log(2, 1));
    }

    /** "RECORDS whose NUMBER is above SECURED are gone"; "how many RECORDS are gone." */
    private static void crashAtSecured() {
        x = new AsideStore();
        x.put(1, 20, 1);
        x.put(2, 20, 2);
        x.sync();
        due("none is above", 0, () -> x.crash());
        due("both are there", 2, () -> x.count(6));
        x.put(3, 20, 3);
        due("the one above", 1, () -> x.crash());
        due("the one at SECURED is there", 20, () -> x.key(2, 0));
        due("the one above is not", -1, () -> x.key(3, 0));
        due("RECORDS", 2, () -> x.segment(0, 1));
        due("bytes", 48, () -> x.segment(0, 2));
        due("again none", 0, () -> x.crash());
        x.put(3, 20, 3);
        x.drop(1);
        x.put(2, 4, 4);
        due("a DROP, too", 3, () -> x.crash());
        due("1 is there", 20, () -> x.key(1, 0));
        due("2 as it was", 2, () -> x.key(2, 1));
        due("WRITTEN has the lost ones still", 48 + 24 + 24 + 4 + 8, () -> x.count(18));
    }

    /** "the SEGMENT that has the RECORD of the greatest NUMBER of all is OPEN .. others that have RECORDS are SEALED". */
    private static void crashOpensTheLatest() {
        store(50, 0, 16, 4);
        for (int key = 0; key < 4; key++) {
            x.put(key, 40, key);
        }
        x.drop(0);
        x.pick(0);
        x.step(1);
        // 0 is FREE, 3 is OPEN with 48 bytes, all is SECURED
        x.put(5, 40, 5);
        due("the OPEN one", 0, () -> x.count(11));
        due("gone", 1, () -> x.crash());
        due("the one of the greatest NUMBER", 3, () -> x.count(11));
        due("FREE without RECORDS", 0, () -> x.segment(0, 0));
        due("SEALED", 2, () -> x.segment(1, 0));
        due("SEALED", 2, () -> x.segment(2, 0));
        x.put(5, 40, 5);
        x.sync();
        x.put(6, 40, 6);
        due("the OPEN one", 4, () -> x.count(11));
        due("gone", 1, () -> x.crash());
        due("the greatest NUMBER lies in 0, not in the last", 0, () -> x.count(11));
        due("SEALED", 2, () -> x.segment(3, 0));
        due("FREE", 0, () -> x.segment(4, 0));
        x.put(6, 2, 6);
        due("it goes on where it was", 44, () -> x.key(6, 5));
        // some of its RECORDS are gone, some stay
        store(50, 0, 16, 4);
        x.put(1, 10, 1);
        x.put(2, 10, 2);
        x.sync();
        x.put(3, 10, 3);
        x.put(4, 10, 4);
        due("SEALED", 2, () -> x.segment(0, 0));
        due("gone", 2, () -> x.crash());
        due("OPEN again", 1, () -> x.segment(0, 0));
        due("its bytes", 28, () -> x.segment(0, 2));
        due("FREE", 11, () -> x.count(10));
        x.put(5, 18, 5);
        due("it is filled up", 28, () -> x.key(5, 5));
    }

    /** "(0, if there are none) .. those without FREE". */
    private static void crashWithoutRecords() {
        x = new AsideStore();
        due("of none", 0, () -> x.crash());
        due("0 is OPEN", 0, () -> x.count(11));
        full(0, 16);
        due("of all", 12, () -> x.crash());
        due("0 is OPEN", 1, () -> x.segment(0, 0));
        due("the others are FREE", 11, () -> x.count(10));
        due("no bytes", 600, () -> x.count(22));
        due("no VALUES", 0, () -> x.count(6));
        due("no ENTRIES", 0, () -> x.count(5));
        due("the latest NUMBER", 0, () -> x.count(7));
        due("the row: gone", 12, () -> x.log(11, 1));
        due("the NUMBER ahead", 12, () -> x.log(11, 2));
        due("NUMBERS from 1", 1, () -> x.put(1, 1, 1));
    }

    /** "the TABLE is made anew: of each RECORD with a NUMBER above MARK, by NUMBERS, its ENTRY". */
    private static void crashAtMark() {
        store(50, 8, 16, 4);
        x.put(1, 20, 1);
        x.flush();
        x.put(2, 30, 2);
        x.put(1, 9, 3);
        x.put(1, 3, 4);
        x.drop(2);
        x.sync();
        x.put(4, 4, 4);
        due("gone", 1, () -> x.crash());
        due("1 and 2", 2, () -> x.count(5));
        due("the latest of 1", 4, () -> x.key(1, 3));
        due("short", 2, () -> x.key(1, 2));
        due("the latest of 2", 5, () -> x.key(2, 3));
        due("DROPPED", 1, () -> x.key(2, 2));
        due("at MARK: in the RUN alone", 2, () -> x.key(1, 8));
        due("RUNS stay", 1, () -> x.count(4));
        x.flush();
        due("none is above MARK", 0, () -> x.crash());
        due("the TABLE has none", 0, () -> x.count(5));
        // NUMBERS rule, not SEGMENTS: the later RECORD lies in a lesser one
        store(50, 0, 16, 4);
        x.put(1, 40, 1);
        x.put(2, 20, 2);
        x.drop(1);
        x.pick(0);
        x.step(1);
        x.put(3, 10, 3);
        due("the first lies in 1", 1, () -> x.key(3, 4));
        x.put(3, 40, 4);
        due("the later one in 0", 0, () -> x.key(3, 4));
        x.sync();
        x.crash();
        due("the later one", 40, () -> x.key(3, 0));
        due("it lies in 0", 0, () -> x.key(3, 4));
        due("one ENTRY", 1, () -> x.count(5));
        due("OPEN", 0, () -> x.count(11));
    }

    /** "no COLLECTION is on." */
    private static void crashEndsACollection() {
        store(50, 0, 16, 4);
        x.put(1, 10, 1);
        x.put(2, 10, 2);
        x.put(3, 40, 3);
        x.sync();
        x.pick(0);
        x.step(1);
        due("on", 0, () -> x.count(14));
        due("what was WRITTEN BACK is gone", 1, () -> x.crash());
        due("on no more", -1, () -> x.count(14));
        due("none left", 0, () -> x.count(15));
        due("1 lies where it was", 0, () -> x.key(1, 4));
        due("WRITTEN BACK ever", 1, () -> x.count(16));
        refused("step", 5, () -> x.step(1));
        refused("quit", 5, () -> x.quit());
        due("pick anew", 2, () -> x.pick(0));
    }

    /** "The next NUMBER is 1 more than SECURED or MARK, whichever is greater." */
    private static void numbersBehindACrash() {
        x = new AsideStore();
        x.put(1, 1, 1);
        x.put(1, 1, 1);
        x.crash();
        due("of none", 1, () -> x.put(1, 1, 1));
        x.flush();
        x.put(1, 1, 1);
        x.crash();
        due("MARK is SECURED", 2, () -> x.put(1, 1, 1));
        x.sync();
        x.put(1, 1, 1);
        x.crash();
        due("SECURED is greater", 2, () -> x.count(7));
        due("the next", 3, () -> x.put(1, 1, 1));
    }
}
