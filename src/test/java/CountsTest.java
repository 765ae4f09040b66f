/** Promises 33 to 36: THE LOG, THE IMAGE, and what is counted. */
public final class CountsTest {
    private static AsideStore x;

    public static void main(String[] args) {
        wrongArguments();
        logRows();
        thirtyRows();
        images();
        imagesOfCollections();
        counts();
        heaviest();
        replay();
        Check.end();
    }

    private static void due(String what, Object due, Check.Call call) {
        Check.due(what, due, call);
    }

    private static void wrongArguments() {
        x = new AsideStore();
        for (int wrong : new int[] {-1, 3, Integer.MIN_VALUE}) {
            due("log what", Check.ELEMENT, () -> x.log(0, wrong));
        }
        for (int wrong : new int[] {-1, 28, 100, Integer.MIN_VALUE, Integer.MAX_VALUE}) {
            due("count", -1, () -> x.count(wrong));
        }
    }

    private static void rows(int[]... rows) {
        due("rows", rows.length, () -> x.count(26));
        for (int i = 0; i < rows.length; i++) {
            for (int j = 0; j < 3; j++) {
                int k = i;
                int what = j;
                due("row " + k + " " + what, rows[i][j], () -> x.log(k, what));
            }
        }
        for (int j = 0; j < 3; j++) {
            int what = j;
            due("no row behind", -1, () -> x.log(rows.length, what));
            due("no row ahead", -1, () -> x.log(-1, what));
            due("no such row", -1, () -> x.log(Integer.MAX_VALUE, what));
        }
    }

    private static void logRows() {
        x = new AsideStore();
        rows();
        x.store(50, 0, 16, 2);
        x.put(1, 40, 1);
        rows();
        x.put(2, 40, 2);
        rows(new int[] {4, 0, 1});
        x.sync();
        x.put(1, 20, 3);
        x.crash();
        rows(new int[] {4, 0, 1}, new int[] {4, 1, 2}, new int[] {3, 1, 3});
        x.flush();
        x.drop(1);
        x.pick(0);
        x.step(1);
        x.merge();
        x.merge();
        rows(new int[] {4, 0, 1}, new int[] {4, 1, 2}, new int[] {3, 1, 3}, new int[] {0, 2, 2}, new int[] {0, 1, 3},
            new int[] {2, 0, 3}, new int[] {1, 1, 3});
        x.undo();
        x.undo();
        due("taken back", 6, () -> x.count(26));
        x.store(50, 0, 16, 2);
        rows();
    }

    private static void thirtyRows() {
        x = new AsideStore();
        x.store(200, 0, 16, 4);
        for (int i = 0; i < 30; i++) {
            x.put(1, 1, i);
            x.crash();
        }
        due("thirty", 30, () -> x.count(26));
        x.put(1, 1, 1);
        x.put(2, 1, 1);
        x.crash();
        due("thirty still", 30, () -> x.count(26));
        due("the eldest is gone", 1, () -> x.log(0, 1));
        due("the latest", 2, () -> x.log(29, 1));
        due("its NUMBER", 2, () -> x.log(29, 2));
        due("the one ahead", 1, () -> x.log(28, 1));
        due("no more", -1, () -> x.log(30, 0));
    }

    private static void images() {
        x = new AsideStore();
        due("none", false, () -> x.back());
        x.put(1, 20, 1);
        x.flush();
        x.image();
        x.put(2, 2, 2);
        x.drop(1);
        due("refused", Check.STATE, () -> x.drop(1));
        due("wrong", Check.ARGUMENT, () -> Check.told(x, "sync;x"));
        x.feed(0x73796e63, 0, 0, 0, 0);
        x.end(4);
        due("back", true, () -> x.back());
        due("1 is there", 20, () -> x.key(1, 0));
        due("2 is not", -1, () -> x.key(2, 0));
        due("NUMBER", 1, () -> x.count(7));
        due("RUNS", 1, () -> x.count(4));
        due("none are remembered", 0, () -> x.count(25));
        due("no undo", Check.STATE, () -> x.undo());
        due("why is left", 2, () -> x.why());
        due("fault is left", 5, () -> x.fault());
        due("the TAPE is left", 1, () -> x.acts());
        x.put(3, 3, 3);
        due("back again", true, () -> x.back());
        due("3 is not", -1, () -> x.key(3, 0));
        x.store(50, 0, 2, 1);
        due("behind STORE", true, () -> x.back());
        due("ROOM", 100, () -> x.count(0));
        due("rows of THE LOG", 1, () -> x.count(26));
        x.put(4, 4, 4);
        x.image();
        x.undo();
        due("undo leaves THE IMAGE", true, () -> x.back());
        due("the later one", 4, () -> x.key(4, 0));
        due("the IMAGE is not the state itself", 3, () -> x.put(4, 5, 5));
        due("back", true, () -> x.back());
        due("4", 4, () -> x.key(4, 0));
    }

    private static void imagesOfCollections() {
        x = new AsideStore();
        x.store(50, 0, 16, 4);
        x.put(1, 10, 1);
        x.put(2, 10, 1);
        x.put(3, 40, 1);
        x.pick(0);
        x.step(1);
        x.image();
        x.step(1);
        due("through", -1, () -> x.count(14));
        x.back();
        due("on", 0, () -> x.count(14));
        due("one left", 1, () -> x.count(15));
        due("one WRITTEN BACK", 1, () -> x.count(16));
        due("the other one", 1, () -> x.step(20));
        due("FREE", 0, () -> x.segment(0, 0));
    }

    private static void counts() {
        x = new AsideStore();
        x.store(50, 8, 3, 2);
        x.put(1, 10, 5);
        x.put(2, 20, 7);
        x.put(3, 5, 9);
        x.put(1, 30, 100);
        x.sync();
        x.drop(2);
        x.put(4, 8, 8);
        x.pick(-1);
        // 0 has 14, 24 and 9 (2 was LIVE until its DROP), 1 has 34, 4 and 12; a FLUSH came ahead of the PUT of 4
        int[] due = {50, 8, 3, 2, 1, 1, 3, 6, 5, 5, 10, 1, 34, 63, 0, 0, 0, 0, 97, 3, 100, 1, 500, 0, 1, 8, 2, 0};
        for (int i = 0; i < due.length; i++) {
            int what = i;
            due("count " + what, due[i], () -> x.count(what));
        }
    }

    private static void heaviest() {
        x = new AsideStore();
        due("none", -1, () -> x.count(24));
        x.put(9, 20, 1);
        x.put(5, 20, 1);
        x.put(3, 19, 1);
        due("of several the least", 5, () -> x.count(24));
        x.drop(5);
        due("9", 9, () -> x.count(24));
        x.drop(9);
        x.drop(3);
        due("none", -1, () -> x.count(24));
    }

    private static void replay() {
        x = new AsideStore();
        x.put(1, 20, 1);
        x.flush();
        x.put(1, 20, 1);
        x.put(1, 20, 2);
        x.drop(1);
        due("none is SECURED", 0, () -> x.count(27));
        x.sync();
        x.put(2, 2, 2);
        due("RECORDS, not ENTRIES", 3, () -> x.count(27));
        x.flush();
        due("none is above MARK", 0, () -> x.count(27));
    }
}
