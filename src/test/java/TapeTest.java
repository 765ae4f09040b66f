/** Promises 1 to 6: a new object, the TAPE, and the texts on it. */
public final class TapeTest {
    private static AsideStore x;

    public static void main(String[] args) {
        newObject();
        feeding();
        ending();
        rightTexts();
        blanksAndDigits();
        wrongWords();
        wrongNumbers();
        textsThatEndTooSoon();
        whatStandsBehindAnAct();
        tooManyActs();
        refusedActs();
        nothingStaysOfAWrongText();
        whyOfTexts();
        Check.end();
    }

    private static void due(String what, Object due, Check.Call call) {
        Check.due(what, due, call);
    }

    private static void right(String text, int acts) {
        due("'" + text + "'", acts, () -> Check.told(x, text));
        due("fault of '" + text + "'", -1, () -> x.fault());
    }

    private static void wrong(String text, int where) {
        due("'" + text + "'", Check.ARGUMENT, () -> Check.told(x, text));
        due("fault of '" + text + "'", where, () -> x.fault());
    }

    private static void newObject() {
        x = new AsideStore();
        int[] first = {100, 8, 6, 3, 0, 0, 0, 0, 0, 0, 11, 0, 0, 0, -1, 0, 0, 0, 0, 0, 100, 0, 1200, -1, -1, 0, 0, 0};
        for (int i = 0; i < first.length; i++) {
            int what = i;
            due("count " + what, first[i], () -> x.count(what));
        }
        due("a new one's fault", -1, () -> x.fault());
        due("a new one's why", 0, () -> x.why());
        due("a new one's TAPE", false, () -> x.end(1));
        due("a new one's TAPE of none", true, () -> x.end(0));
        due("the constant", -1, () -> AsideStore.NONE);
    }

    private static void feeding() {
        x = new AsideStore();
        for (int i = 1; i <= 20; i++) {
            int bytes = 20 * i;
            due("feed " + i, bytes, () -> x.feed(0x20202020, 0, 0, 0, 0));
        }
        due("over 400", -1, () -> x.feed(0, 0, 0, 0, 0));
        due("still 400", true, () -> x.end(400));
        due("cut", true, () -> x.end(381));
        due("401 would be too many", -1, () -> x.feed(0, 0, 0, 0, 0));
        due("cut again", true, () -> x.end(380));
        due("400 are not", 400, () -> x.feed(0, 0, 0, 0, 0));
        // the highest byte of each number comes first, and bytes above 127 are themselves
        x = new AsideStore();
        due("sync;flush; crash;me", 20, () -> x.feed(0x73796e63, 0x3b666c75, 0x73683b20, 0x63726173, 0x683b6d65));
        due("rge and rubbish", 40, () -> x.feed(0x72676520, 0xff000000, -1, -1, -1));
        due("cut ahead of it", true, () -> x.end(24));
        due("four acts", 4, () -> x.acts());
        right(" ".repeat(396) + "sync", 1);
        wrong(" ".repeat(397) + "syn", 397);
        wrong(" ".repeat(395) + "drop ", 400);
        right(" ".repeat(391) + "put 1 2 3", 1);
        x.feed(0x73796e63, 0xa0000000, 0, 0, 0);
        x.end(5);
        due("160 is no blank", Check.ARGUMENT, () -> x.acts());
        due("160 is wrong", 4, () -> x.fault());
    }

    private static void ending() {
        x = new AsideStore();
        x.feed(0x73796e63, 0, 0, 0, 0);
        due("more than there are", false, () -> x.end(21));
        due("below 0", false, () -> x.end(-1));
        due("least int", false, () -> x.end(Integer.MIN_VALUE));
        due("all", true, () -> x.end(20));
        due("four", true, () -> x.end(4));
        due("five are gone", false, () -> x.end(5));
        due("the four are left", 1, () -> x.acts());
        due("the TAPE is used up", false, () -> x.end(1));
        wrong("x", 0);
        due("and by a wrong text", false, () -> x.end(1));
    }

    private static void rightTexts() {
        x = new AsideStore();
        right("", 0);
        right("   ", 0);
        right("store 50 8 2 2", 1);
        due("ROOM", 50, () -> x.count(0));
        due("SHORT", 8, () -> x.count(1));
        due("MOST", 2, () -> x.count(2));
        due("RUNS", 2, () -> x.count(3));
        right("put 1 10 5;put 2 20 7;put 3 5 9;put 1 30 100", 4);
        due("the latest NUMBER", 4, () -> x.count(7));
        due("LENGTH", 30, () -> x.key(1, 0));
        due("SEED", 100, () -> x.key(1, 1));
        right("pick", 1);
        due("picked", 0, () -> x.count(14));
        right("quit", 1);
        right("pick 0", 1);
        right("step 20", 1);
        due("collected", 0, () -> x.segment(0, 0));
        wrong("pick 1 0", 7);
        due("nothing is on", -1, () -> x.count(14));
        right("drop 1;sync;flush;merge;crash", 5);
        due("dropped", -1, () -> x.key(1, 0));
        right("store 200 40 16 4", 1);
        due("ROOM", 200, () -> x.count(0));
        right("put 63 40 255;put 0 1 0", 2);
        due("LENGTH of 63", 40, () -> x.key(63, 0));
        due("SEED of 63", 255, () -> x.key(63, 1));
    }

    private static void blanksAndDigits() {
        x = new AsideStore();
        right("  put   1   10   5  ;  sync  ", 2);
        right("put1 10 5;drop1;sync", 3);
        right("put 001 010 005", 1);
        due("three digits", 10, () -> x.key(1, 0));
        right("store050 000 002 001;put063 001 000", 2);
        wrong("put 0001 10 5", 4);
        wrong("put 1 0010 5", 6);
        wrong("put 1 10 0005", 9);
        wrong("store 0100 8 6 3", 6);
        wrong("pick 0000", 5);
        wrong("step 99999999999999999999", 5);
        wrong("put 4294967297 1 1", 4);
        wrong("sync\t", 4);
        wrong("\tsync", 0);
    }

    private static void wrongWords() {
        x = new AsideStore();
        wrong("x", 0);
        wrong("  x", 2);
        wrong("Sync", 0);
        wrong("syncc", 0);
        wrong("syn", 0);
        wrong("syncflush", 0);
        wrong("sync;syn", 5);
        wrong(";", 0);
        wrong("  ;sync", 2);
        wrong("sync;;sync", 5);
        wrong("sync; 5", 6);
        wrong("5", 0);
        wrong("undo", 0);
        wrong("image", 0);
    }

    private static void wrongNumbers() {
        x = new AsideStore();
        wrong("store 49 8 6 3", 6);
        wrong("store 201 8 6 3", 6);
        wrong("store 50 41 6 3", 9);
        wrong("store 50 40 1 3", 12);
        wrong("store 50 40 17 3", 12);
        wrong("store 50 40 16 0", 15);
        wrong("store 50 40 16 5", 15);
        wrong("put 64 1 0", 4);
        wrong("put 0 0 0", 6);
        wrong("put 0 41 0", 6);
        wrong("put 0 1 256", 8);
        wrong("drop 64", 5);
        wrong("pick 12", 5);
        wrong("step 0", 5);
        wrong("step 21", 5);
        wrong("put x", 4);
        wrong("put 1 sync", 6);
        wrong("put -1 1 1", 4);
        wrong("step", 4);
        wrong("step ;", 5);
        due("nothing came of it", 100, () -> x.count(0));
    }

    private static void textsThatEndTooSoon() {
        x = new AsideStore();
        wrong("put", 3);
        wrong("put 1", 5);
        wrong("put 1 1", 7);
        wrong("put 1 1   ", 10);
        wrong("sync;", 5);
        wrong("sync;  ", 7);
        wrong("store 50 8 2", 12);
        wrong("drop  ", 6);
    }

    private static void whatStandsBehindAnAct() {
        x = new AsideStore();
        wrong("sync sync", 5);
        wrong("sync 5", 5);
        wrong("put 1 10 5 6", 11);
        wrong("put 1 10 5x", 10);
        wrong("put 1 10 5,", 10);
        wrong("flush.", 5);
        // the ACT is done by then, so its being refused comes first
        wrong("quit x", 0);
        due("by", 5, () -> x.why());
        wrong("pick x", 0);
        due("by", 4, () -> x.why());
    }

    private static void tooManyActs() {
        x = new AsideStore();
        right("sync;".repeat(13) + "sync", 14);
        wrong("sync;".repeat(14) + "sync", 70);
        wrong("sync;".repeat(14) + "  put 99", 72);
        wrong("sync;".repeat(14), 70);
        wrong("sync;".repeat(13) + "sync x", 70);
    }

    private static void refusedActs() {
        x = new AsideStore();
        wrong("drop 5", 0);
        due("no VALUE", 2, () -> x.why());
        wrong("sync; quit", 6);
        due("none is on", 5, () -> x.why());
        wrong("  pick 3;sync", 2);
        due("not SEALED", 4, () -> x.why());
        wrong("step 1", 0);
        due("none is on", 5, () -> x.why());
        wrong("store 50 0 6 3;put 1 40 1;put 2 40 1;pick;pick 0", 42);
        due("one is on", 3, () -> x.why());
        Check.told(x, "store 50 0 6 3;put 0 40 0;put 1 40 0;put 2 40 0;put 3 40 0;put 4 40 0;put 5 40 0");
        wrong("put 6 40 0;put 7 40 0;put 8 40 0;put 9 40 0;put 10 40 0;put 11 40 0; put 12 40 0", 69);
        due("no room", 1, () -> x.why());
        due("nothing stays", 6, () -> x.count(7));
    }

    private static void nothingStaysOfAWrongText() {
        x = new AsideStore();
        x.put(1, 20, 3);
        x.put(2, 4, 5);
        x.image();
        wrong("store 50 0 2 1;put 7 7 7;flush;crash;x", 37);
        due("ROOM", 100, () -> x.count(0));
        due("VALUES", 2, () -> x.count(6));
        due("LENGTH", 20, () -> x.key(1, 0));
        due("rows of THE LOG", 0, () -> x.count(26));
        due("remembered still", 2, () -> x.count(25));
        due("undo", 1, () -> x.undo());
        right("put 3 3 3", 1);
        due("none are remembered", 0, () -> x.count(25));
        due("undo", Check.STATE, () -> x.undo());
        x.sync();
        right("", 0);
        due("none behind a right text of none", 0, () -> x.count(25));
        due("the IMAGE stays", true, () -> x.back());
    }

    private static void whyOfTexts() {
        x = new AsideStore();
        wrong("quit", 0);
        due("refused", 5, () -> x.why());
        right("  ", 0);
        due("none leaves it", 5, () -> x.why());
        wrong("sync;x", 5);
        due("wrong otherwise leaves it", 5, () -> x.why());
        wrong("sync;".repeat(14) + "sync", 70);
        due("one too many leaves it", 5, () -> x.why());
        right("sync", 1);
        due("right", 0, () -> x.why());
        due("a call", Check.STATE, () -> x.drop(1));
        due("by a call", 2, () -> x.why());
        due("no such KEY", Check.INDEX, () -> x.drop(64));
        due("leaves it", 2, () -> x.why());
        due("fault is left by calls", -1, () -> x.fault());
    }
}
