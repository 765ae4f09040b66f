/** Promises 7 to 17: ACTS by calls, and taking them back. */
public final class ActsTest {
    private static AsideStore x;

    public static void main(String[] args) {
        stores();
        puts();
        putsWithoutRoom();
        drops();
        syncs();
        flushes();
        merges();
        mergesOfOneRun();
        crashes();
        crashesBehindTheMark();
        picks();
        steps();
        stepsLookAgain();
        stepsWithoutRoom();
        stepsThatFlush();
        quits();
        undoes();
        undoOfEachAct();
        Check.end();
    }

    private static void due(String what, Object due, Check.Call call) {
        Check.due(what, due, call);
    }

    private static void refused(String what, int why, Check.Call call) {
        due(what, Check.STATE, call);
        due(what + ", why", why, () -> x.why());
    }

    private static void stores() {
        x = new AsideStore();
        x.put(1, 30, 3);
        x.flush();
        int[][] none = {{49, 8, 6, 3}, {201, 8, 6, 3}, {100, -1, 6, 3}, {100, 41, 6, 3}, {100, 8, 1, 3},
            {100, 8, 17, 3}, {100, 8, 6, 0}, {100, 8, 6, 5}, {Integer.MIN_VALUE, 8, 6, 3}, {100, 8, 6, Integer.MAX_VALUE}};
        for (int[] n : none) {
            due("store", Check.ARGUMENT, () -> x.store(n[0], n[1], n[2], n[3]));
        }
        due("nothing changed", 1, () -> x.count(6));
        due("remembered", 2, () -> x.count(25));
        refused("pick", 4, () -> x.pick(-1));
        due("store", Check.ARGUMENT, () -> x.store(0, 0, 0, 0));
        due("why is left", 4, () -> x.why());
        due("least", 11, () -> x.store(50, 0, 2, 1));
        due("why", 0, () -> x.why());
        int[] first = {50, 0, 2, 1, 0, 0, 0, 0, 0, 0, 11, 0, 0, 0, -1, 0, 0, 0, 0, 0, 100, 0, 600, -1, -1, 0, 0, 0};
        for (int i = 0; i < first.length; i++) {
            int what = i;
            due("count " + what, first[i], () -> x.count(what));
        }
        due("greatest", 11, () -> x.store(200, 40, 16, 4));
        due("ROOM", 200, () -> x.count(0));
    }

    private static void puts() {
        x = new AsideStore();
        due("no such KEY", Check.INDEX, () -> x.put(64, 0, 0));
        due("no such KEY", Check.INDEX, () -> x.put(-1, 1, 0));
        due("LENGTH 0", Check.ARGUMENT, () -> x.put(0, 0, 0));
        due("LENGTH 41", Check.ARGUMENT, () -> x.put(0, 41, 0));
        due("SEED -1", Check.ARGUMENT, () -> x.put(0, 1, -1));
        due("SEED 256", Check.ARGUMENT, () -> x.put(0, 1, 256));
        due("first", 1, () -> x.put(63, 40, 255));
        due("second", 2, () -> x.put(0, 1, 0));
        due("third, in place of the second", 3, () -> x.put(0, 8, 1));
        due("fourth", 4, () -> x.put(5, 9, 1));
        due("ENTRIES", 3, () -> x.count(5));
        due("8 is short", 2, () -> x.key(0, 2));
        due("9 is long", 3, () -> x.key(5, 2));
        due("bytes", 44 + 5 + 12 + 13, () -> x.segment(0, 2));
        due("where 5 begins", 61, () -> x.key(5, 5));
        due("26 are left", 5, () -> x.put(6, 22, 0));
        due("still in 0", 0, () -> x.key(6, 4));
        due("full", 100, () -> x.segment(0, 2));
        due("OPEN still", 1, () -> x.segment(0, 0));
        due("sixth", 6, () -> x.put(7, 9, 0));
        due("SEALED", 2, () -> x.segment(0, 0));
        due("in 1", 1, () -> x.key(7, 4));
        // MOST is 6: five ENTRIES are there (63, 0, 5, 6, 7)
        due("seventh", 7, () -> x.put(8, 1, 0));
        due("no RUN yet", 0, () -> x.count(4));
        due("one that is there needs no FLUSH", 8, () -> x.put(8, 2, 0));
        due("no RUN yet", 0, () -> x.count(4));
        due("one that is not does", 9, () -> x.put(9, 2, 0));
        due("a RUN", 1, () -> x.count(4));
        due("of six", 6, () -> x.run(0, 0));
        due("the TABLE has the new one", 1, () -> x.count(5));
        due("MARK", 8, () -> x.count(9));
        due("SECURED", 8, () -> x.count(8));
    }

    /** Twelve SEGMENTS of 50 with one RECORD of 44 each: six bytes are left. */
    private static void fillUp() {
        x = new AsideStore();
        x.store(50, 0, 16, 4);
        for (int key = 0; key < 12; key++) {
            x.put(key, 40, key);
        }
    }

    private static void putsWithoutRoom() {
        fillUp();
        refused("put", 1, () -> x.put(12, 3, 0));
        due("remembered", 8, () -> x.count(25));
        due("2 fit", 13, () -> x.put(12, 2, 0));
        due("why", 0, () -> x.why());
        refused("put", 1, () -> x.put(12, 1, 0));
        // a TABLE that is full is not flushed for what does not fit
        x.store(50, 0, 2, 4);
        for (int key = 0; key < 12; key++) {
            x.put(key, 40, key);
        }
        due("RUN ROWS: five of two, and a MERGE of ten", 20, () -> x.count(19));
        due("full", 2, () -> x.count(5));
        refused("put", 1, () -> x.put(20, 40, 0));
        due("no FLUSH", 2, () -> x.count(5));
        due("no RUN ROWS", 20, () -> x.count(19));
    }

    private static void drops() {
        x = new AsideStore();
        due("no such KEY", Check.INDEX, () -> x.drop(64));
        due("no such KEY", Check.INDEX, () -> x.drop(-1));
        refused("none", 2, () -> x.drop(3));
        x.put(3, 20, 1);
        due("drop", 2, () -> x.drop(3));
        due("why", 0, () -> x.why());
        due("DROPPED", 1, () -> x.key(3, 2));
        due("4 bytes", 28, () -> x.segment(0, 2));
        due("TOLD and WRITTEN alike", 100, () -> x.count(20));
        refused("again", 2, () -> x.drop(3));
        x.store(100, 8, 2, 3);
        x.put(1, 1, 1);
        x.put(2, 1, 1);
        x.flush();
        x.put(3, 1, 1);
        x.put(4, 1, 1);
        due("drop of one in a RUN flushes", 5, () -> x.drop(1));
        due("two RUNS", 2, () -> x.count(4));
        due("one ENTRY", 1, () -> x.count(5));
        fillUp();
        due("fits", 13, () -> x.drop(0));
        refused("no room", 1, () -> x.drop(1));
        refused("no room ahead of no VALUE", 1, () -> x.drop(40));
    }

    private static void syncs() {
        x = new AsideStore();
        due("none", 0, () -> x.sync());
        x.put(1, 20, 1);
        x.put(1, 20, 2);
        x.drop(1);
        due("three", 3, () -> x.sync());
        due("SECURED", 3, () -> x.count(8));
        due("MARK", 0, () -> x.count(9));
        due("none more", 0, () -> x.sync());
        x.put(1, 20, 1);
        due("one more", 1, () -> x.sync());
        due("why", 0, () -> x.why());
    }

    private static void flushes() {
        x = new AsideStore();
        x.store(200, 8, 16, 2);
        due("none", 0, () -> x.flush());
        due("no row", 0, () -> x.count(26));
        x.put(1, 20, 1);
        x.put(2, 2, 2);
        due("one", 1, () -> x.flush());
        due("SECURED", 2, () -> x.count(8));
        due("MARK", 2, () -> x.count(9));
        due("TABLE", 0, () -> x.count(5));
        due("one still", 1, () -> x.flush());
        x.drop(1);
        due("two", 2, () -> x.flush());
        x.put(3, 3, 3);
        due("three are too many", 1, () -> x.flush());
        due("the one left", 2, () -> x.run(0, 0));
        due("least KEY", 2, () -> x.run(0, 1));
        due("RUN ROWS", 2 + 1 + 1 + 2, () -> x.count(19));
        x.store(200, 8, 16, 1);
        x.put(1, 1, 1);
        due("the one that may be", 1, () -> x.flush());
        x.drop(1);
        due("none is left", 0, () -> x.flush());
        due("RUN ROWS", 2, () -> x.count(19));
        due("rows of THE LOG", 3, () -> x.count(26));
        due("a MERGE to nothing", 1, () -> x.log(2, 0));
        due("of no ENTRIES", 0, () -> x.log(2, 1));
    }

    private static void merges() {
        x = new AsideStore();
        x.store(200, 8, 16, 4);
        due("none", 0, () -> x.merge());
        x.put(1, 20, 1);
        x.put(2, 20, 2);
        x.flush();
        x.put(2, 30, 3);
        x.put(3, 3, 3);
        x.flush();
        x.drop(1);
        x.put(4, 4, 4);
        x.flush();
        x.put(5, 5, 5);
        due("RUN ROWS", 6, () -> x.count(19));
        due("six to three", 3, () -> x.merge());
        due("one RUN", 1, () -> x.count(4));
        due("RUN ROWS", 9, () -> x.count(19));
        due("2 is the later one", 30, () -> x.key(2, 0));
        due("1 is gone", 0, () -> x.key(1, 2));
        due("DROPPED ones", 0, () -> x.run(0, 3));
        due("the TABLE stays", 1, () -> x.count(5));
        due("MARK stays", 6, () -> x.count(9));
        due("SECURED stays", 6, () -> x.count(8));
        due("a row", 1, () -> x.log(3, 0));
        due("of three", 3, () -> x.log(3, 1));
        due("NUMBER ahead", 7, () -> x.log(3, 2));
    }

    private static void mergesOfOneRun() {
        x = new AsideStore();
        x.put(1, 1, 1);
        x.drop(1);
        x.put(2, 20, 2);
        x.flush();
        due("two ENTRIES", 2, () -> x.run(0, 0));
        due("RUN ROWS", 2, () -> x.count(19));
        due("one fewer", 1, () -> x.merge());
        due("one ENTRY", 1, () -> x.run(0, 0));
        due("no RUN ROWS", 2, () -> x.count(19));
        due("no row of THE LOG", 1, () -> x.count(26));
        due("none fewer", 0, () -> x.merge());
        x.store(100, 8, 6, 3);
        x.put(1, 1, 1);
        x.drop(1);
        x.flush();
        due("one RUN", 1, () -> x.count(4));
        due("one fewer", 1, () -> x.merge());
        due("no RUN", 0, () -> x.count(4));
        due("no such RUN", Check.INDEX, () -> x.run(0, 0));
    }

    private static void crashes() {
        x = new AsideStore();
        due("none", 0, () -> x.crash());
        due("a row all the same", 3, () -> x.log(0, 0));
        x.store(50, 8, 6, 3);
        x.put(1, 40, 1);
        x.put(2, 40, 2);
        due("two are gone", 2, () -> x.crash());
        due("latest NUMBER", 0, () -> x.count(7));
        due("OPEN", 0, () -> x.count(11));
        due("FREE", 11, () -> x.count(10));
        due("VALUES", 0, () -> x.count(6));
        due("the row", 2, () -> x.log(x.count(26) - 1, 1));
        due("the NUMBER ahead of it", 2, () -> x.log(x.count(26) - 1, 2));
        due("NUMBERS begin anew", 1, () -> x.put(1, 40, 7));
        x.put(2, 40, 2);
        x.sync();
        x.put(3, 40, 3);
        x.put(2, 5, 9);
        due("OPEN", 3, () -> x.count(11));
        due("in a segment of its own, and one more", 2, () -> x.crash());
        due("the latest one with RECORDS", 1, () -> x.count(11));
        due("OPEN", 1, () -> x.segment(1, 0));
        due("SEALED", 2, () -> x.segment(0, 0));
        due("FREE", 0, () -> x.segment(2, 0));
        due("comes back", 2, () -> x.key(2, 1));
        due("in the TABLE", 0, () -> x.key(1, 7));
        due("TABLE", 2, () -> x.count(5));
        due("WRITTEN stays", 6 * 44 - 35, () -> x.count(18));
        due("next", 3, () -> x.put(9, 1, 1));
    }

    private static void crashesBehindTheMark() {
        x = new AsideStore();
        x.store(200, 8, 16, 4);
        x.put(1, 20, 1);
        x.put(2, 3, 2);
        x.flush();
        x.put(1, 21, 11);
        x.put(1, 22, 12);
        x.drop(2);
        x.sync();
        x.put(2, 9, 9);
        due("one is gone", 1, () -> x.crash());
        due("TABLE of what is above MARK", 2, () -> x.count(5));
        due("the later of two", 22, () -> x.key(1, 0));
        due("its NUMBER", 4, () -> x.key(1, 3));
        due("DROPPED", 1, () -> x.key(2, 2));
        due("RUNS last", 1, () -> x.count(4));
        due("latest NUMBER", 5, () -> x.count(7));
        due("MARK", 2, () -> x.count(9));
        x.store(50, 0, 16, 4);
        x.put(1, 40, 1);
        x.put(2, 40, 1);
        x.pick(0);
        due("on", 0, () -> x.count(14));
        x.crash();
        due("on no more", -1, () -> x.count(14));
        due("NOTED", 0, () -> x.count(15));
    }

    private static void picks() {
        x = new AsideStore();
        due("no such SEGMENT", Check.INDEX, () -> x.pick(12));
        due("no such SEGMENT", Check.INDEX, () -> x.pick(-2));
        refused("none is SEALED", 4, () -> x.pick(-1));
        refused("OPEN", 4, () -> x.pick(0));
        refused("FREE", 4, () -> x.pick(1));
        x.store(50, 8, 16, 4);
        x.put(1, 10, 1);
        x.put(2, 5, 1);
        x.put(3, 15, 1);
        x.put(4, 40, 1);
        x.put(5, 5, 5);
        x.put(6, 30, 6);
        // 0: 14 and 19 LIVE, 1: 44 LIVE, 2 OPEN: 9 DEAD and 34 LIVE
        due("long ones alone", 2, () -> x.pick(0));
        due("on", 0, () -> x.count(14));
        due("left", 2, () -> x.count(15));
        refused("one is on", 3, () -> x.pick(1));
        refused("one is on, ahead of not SEALED", 3, () -> x.pick(2));
        refused("one is on, of none told", 3, () -> x.pick(-1));
        x.quit();
        due("the poorest one", 2, () -> x.pick(-1));
        due("it is 0", 0, () -> x.count(14));
        x.quit();
        x.drop(4);
        due("44 are LIVE no more", 0, () -> x.pick(-1));
        due("it is 1", 1, () -> x.count(14));
        x.quit();
        x.drop(1);
        x.drop(3);
        due("alike: the least", 0, () -> x.pick(-1));
        due("it is 0", 0, () -> x.count(14));
    }

    private static void steps() {
        x = new AsideStore();
        due("n 0", Check.ARGUMENT, () -> x.step(0));
        due("n 21", Check.ARGUMENT, () -> x.step(21));
        due("n -1", Check.ARGUMENT, () -> x.step(-1));
        refused("none is on", 5, () -> x.step(1));
        x.store(50, 0, 16, 4);
        x.put(1, 10, 1);
        x.put(2, 11, 2);
        x.put(3, 12, 3);
        x.put(4, 30, 4);
        due("three", 3, () -> x.pick(0));
        due("one", 1, () -> x.step(1));
        due("it lies in 1", 1, () -> x.key(1, 4));
        due("behind 4", 34, () -> x.key(1, 5));
        due("NUMBER", 5, () -> x.key(1, 3));
        due("VALUE", 10, () -> x.key(1, 0));
        due("SEED", 1, () -> x.key(1, 1));
        due("left", 2, () -> x.count(15));
        due("not through", 2, () -> x.segment(0, 0));
        due("two", 2, () -> x.step(20));
        due("through", -1, () -> x.count(14));
        due("FREE", 0, () -> x.segment(0, 0));
        due("RECORDS are gone", 0, () -> x.segment(0, 1));
        due("FLUSH", 1, () -> x.count(4));
        due("SECURED", 7, () -> x.count(8));
        due("WRITTEN BACK", 3, () -> x.count(16));
        due("WRITTEN", 79 + 45, () -> x.count(18));
        due("AMPLE", 100 * 124 / 79, () -> x.count(20));
        due("VALUES", 4, () -> x.count(6));
        refused("on no more", 5, () -> x.step(1));
        // with none NOTED the first STEP is through
        x.drop(4);
        due("1 is SEALED", 2, () -> x.segment(1, 0));
        x.drop(1);
        due("none", 0, () -> x.pick(1));
        due("none", 0, () -> x.step(1));
        due("FREE", 0, () -> x.segment(1, 0));
    }

    private static void stepsLookAgain() {
        x = new AsideStore();
        x.store(50, 8, 16, 4);
        x.put(1, 10, 1);
        x.put(2, 11, 2);
        x.put(3, 12, 3);
        x.put(4, 30, 4);
        x.pick(0);
        x.put(1, 3, 9);
        x.drop(3);
        due("the second one alone", 1, () -> x.step(3));
        due("SKIPPED", 2, () -> x.count(17));
        due("WRITTEN BACK", 1, () -> x.count(16));
        due("1 is as told", 3, () -> x.key(1, 0));
        due("3 has none", -1, () -> x.key(3, 0));
        x.sync();
        due("taken back", 7, () -> x.undo());
        due("SKIPPED still", 2, () -> x.count(17));
        due("the STEP taken back", 6, () -> x.undo());
        due("SKIPPED no more", 0, () -> x.count(17));
        due("again", 1, () -> x.step(3));
        due("through", -1, () -> x.count(14));
        x.store(50, 8, 16, 4);
        due("SKIPPED since STORE", 0, () -> x.count(17));
        due("WRITTEN BACK since STORE", 0, () -> x.count(16));
    }

    /** 0 has the KEYS 0 and 1 (24 bytes each), 1 to 10 are full, 11 has 26 bytes left. */
    private static void fillButFor26() {
        x = new AsideStore();
        x.store(50, 0, 16, 4);
        x.put(0, 20, 0);
        x.put(1, 20, 1);
        for (int key = 2; key < 12; key++) {
            x.put(key, 40, key);
        }
        x.put(12, 20, 12);
    }

    private static void stepsWithoutRoom() {
        fillUp();
        due("one", 1, () -> x.pick(0));
        refused("no room", 1, () -> x.step(1));
        due("still on", 0, () -> x.count(14));
        fillButFor26();
        x.pick(0);
        due("one, and it ends there", 1, () -> x.step(2));
        due("why", 0, () -> x.why());
        due("left", 1, () -> x.count(15));
        due("still on", 0, () -> x.count(14));
        refused("no room for the second", 1, () -> x.step(20));
        due("quit", 1, () -> x.quit());
        fillButFor26();
        x.pick(0);
        x.drop(0);
        refused("SKIPPED ones do not count", 1, () -> x.step(2));
        due("nothing is SKIPPED", 0, () -> x.count(17));
        due("two left", 2, () -> x.count(15));
        due("that one alone can be", 0, () -> x.step(1));
        due("SKIPPED", 1, () -> x.count(17));
        refused("and then no more", 1, () -> x.step(1));
        fillButFor26();
        x.pick(0);
        x.drop(0);
        x.drop(1);
        due("without any to write", 0, () -> x.step(5));
        due("through", 0, () -> x.segment(0, 0));
    }

    private static void stepsThatFlush() {
        x = new AsideStore();
        x.store(50, 8, 2, 2);
        x.put(1, 10, 5);
        x.put(2, 20, 7);
        x.put(3, 5, 9);
        x.put(1, 30, 100);
        due("one", 1, () -> x.pick(-1));
        due("one", 1, () -> x.step(1));
        int[][] rows = {{0, 2, 2}, {4, 0, 3}, {0, 2, 4}, {4, 1, 4}, {0, 1, 5}, {1, 3, 5}, {2, 0, 5}};
        due("rows", 7, () -> x.count(26));
        for (int i = 0; i < rows.length; i++) {
            for (int j = 0; j < 3; j++) {
                int k = i;
                int what = j;
                due("row " + k + " " + what, rows[i][j], () -> x.log(k, what));
            }
        }
    }

    private static void quits() {
        x = new AsideStore();
        refused("none is on", 5, () -> x.quit());
        x.store(50, 0, 16, 4);
        x.put(1, 10, 1);
        x.put(2, 11, 2);
        x.put(3, 12, 3);
        x.put(4, 30, 4);
        x.pick(0);
        x.step(1);
        due("two left", 2, () -> x.quit());
        due("why", 0, () -> x.why());
        due("none is on", -1, () -> x.count(14));
        due("none left", 0, () -> x.count(15));
        due("SEALED still", 2, () -> x.segment(0, 0));
        refused("again", 5, () -> x.quit());
    }

    private static void undoes() {
        x = new AsideStore();
        due("none", Check.STATE, () -> x.undo());
        for (int i = 1; i <= 10; i++) {
            x.put(i, i, i);
        }
        due("8 are remembered", 8, () -> x.count(25));
        for (int i = 7; i >= 0; i--) {
            int left = i;
            due("undo", left, () -> x.undo());
            due("VALUES", left + 2, () -> x.count(6));
        }
        due("no more", Check.STATE, () -> x.undo());
        due("all but two are back", 2, () -> x.count(7));
        x.drop(1);
        due("refused", Check.STATE, () -> x.drop(1));
        due("only what was done", 1, () -> x.count(25));
        due("undo", 0, () -> x.undo());
        due("why is of the latest ACT", 2, () -> x.why());
        due("1 is back", 1, () -> x.key(1, 0));
        x.sync();
        x.store(100, 8, 6, 3);
        due("none behind STORE", Check.STATE, () -> x.undo());
        x.sync();
        x.image();
        due("an IMAGE is none", 1, () -> x.count(25));
        x.back();
        due("none behind going back", 0, () -> x.count(25));
    }

    private static String all() {
        StringBuilder text = new StringBuilder();
        for (int what = 0; what < 25; what++) {
            text.append(x.count(what)).append(' ');
        }
        for (int key = 0; key < 64; key++) {
            for (int what = 0; what < 10; what++) {
                text.append(x.key(key, what)).append(' ');
            }
        }
        for (int segment = 0; segment < 12; segment++) {
            for (int what = 0; what < 7; what++) {
                text.append(x.segment(segment, what)).append(' ');
            }
        }
        for (int k = 0; k < 30; k++) {
            text.append(x.log(k, 0)).append(x.log(k, 1)).append(x.log(k, 2)).append(' ');
        }
        return text.toString();
    }

    private static void undoOfEachAct() {
        Check.Call[] acts = {() -> x.put(1, 40, 4), () -> x.drop(2), () -> x.sync(), () -> x.flush(), () -> x.crash(),
            () -> x.put(7, 9, 9), () -> x.drop(0), () -> x.flush(), () -> x.merge(), () -> x.pick(1), () -> x.step(1),
            () -> x.quit(), () -> x.pick(0), () -> x.step(20)};
        x = new AsideStore();
        x.store(50, 5, 4, 4);
        for (int key = 0; key < 8; key++) {
            x.put(key, 8 + key, key);
        }
        for (int i = 0; i < acts.length; i++) {
            String ahead = all();
            String answer = Check.answerOf(acts[i]);
            String behind = all();
            x.undo();
            due("as ahead of act " + i, ahead, () -> all());
            due("act " + i + " again", answer, acts[i]);
            due("as behind act " + i, behind, () -> all());
        }
    }
}
