import java.util.List;
import java.util.function.Function;

/** The TAPE and the texts on it (promises 2 to 6, and what 'Terms' says of ACTS): where each thing may stand and end. */
public final class BoundsOfTextsTest {
    private static AsideStore x;

    public static void main(String[] args) {
        theTapeHas400AtMost();
        theHighestByteFirst();
        firstBytesAlone();
        whatIsCutOffIsNotRead();
        aTextMayBeEmpty();
        textsDoWhatCallsDo();
        fourteenActsAtMost();
        eachActHasItsNumbers();
        pickMayHaveANumber();
        boundsOfNumbers();
        digitsAre1To3();
        wordsAreAToZ();
        blanksAre32();
        doneOneBehindAnother();
        readWholeAhead();
        wrongByItsFirstWord();
        moreMustCome();
        nothingStays();
        howManyWereDone();
        faultOfTheLatest();
        whyOfTexts();
        Check.end();
    }

    private static void due(String what, Object due, Check.Call call) {
        Check.due(what, due, call);
    }

    private static void right(String text, int acts) {
        due("'" + text + "'", acts, () -> Check.told(x, text));
        due("fault of '" + text + "'", -1, () -> x.fault());
    }

    /** Also: a wrong text, read by an object that has the same behind it, leaves no trace. */
    private static void wrong(String text, int where) {
        String ahead = Picture.of(x);
        due("'" + text + "'", Check.ARGUMENT, () -> Check.told(x, text));
        due("fault of '" + text + "'", where, () -> x.fault());
        due("the TAPE is used up", false, () -> x.end(1));
        due("of '" + text + "' nothing stays", ahead, () -> Picture.of(x));
    }

    /** "NONE, and none come, if it would have more than 400." */
    private static void theTapeHas400AtMost() {
        for (int bytes = 379; bytes <= 400; bytes++) {
            int n = bytes;
            x = new AsideStore();
            Check.feed(x, "sync" + " ".repeat(n - 4));
            due("feed behind " + n, n <= 380 ? n + 20 : -1, () -> x.feed(0x20202020, 0x20202020, 0x20202020, 0x20202020, 0x20202020));
            due("one more than it has", false, () -> x.end(n <= 380 ? n + 21 : n + 1));
            due("all that it has", true, () -> x.end(n <= 380 ? n + 20 : n));
            due("its text", 1, () -> x.acts());
        }
        due("used up, there is room again", 20, () -> x.feed(0, 0, 0, 0, 0));
    }

    /** "Twenty bytes come behind the TAPE, of each number the highest first: how many it has". */
    private static void theHighestByteFirst() {
        x = new AsideStore();
        due("twenty", 20, () -> x.feed(0x20202073, 0x796e633b, 0x20202020, 0x20202020, 0x70757420));
        due("forty", 40, () -> x.feed(0x36332034, 0x30203235, 0x35202020, 0x20202020, 0x20202020));
        due("two ACTS", 2, () -> x.acts());
        due("LENGTH", 40, () -> x.key(63, 0));
        due("SEED", 255, () -> x.key(63, 1));
        // a byte above 127 is itself, and the lowest of a number is the last
        x.feed(-1, 0, 0, 0, 0);
        due("255 is no word", Check.ARGUMENT, () -> x.acts());
        due("fault", 0, () -> x.fault());
        x.feed(0x73796e63, 0x202020ff, 0, 0, 0);
        x.end(8);
        due("255 is no blank", Check.ARGUMENT, () -> x.acts());
        due("fault", 7, () -> x.fault());
        x.feed(0x73796e63, 0x202020ff, 0, 0, 0);
        x.end(7);
        due("cut off, it is gone", 1, () -> x.acts());
        x.feed(0xf3796e63, 0, 0, 0, 0);
        x.end(4);
        due("243 is no s", Check.ARGUMENT, () -> x.acts());
        due("fault", 0, () -> x.fault());
    }

    /** "The TAPE has its first n bytes alone: true; false, and nothing happens, if it has fewer, or n is below 0." */
    private static void firstBytesAlone() {
        x = new AsideStore();
        due("0 of none", true, () -> x.end(0));
        due("1 of none", false, () -> x.end(1));
        Check.feed(x, "sync;flush");
        due("11 of ten", false, () -> x.end(11));
        due("-1", false, () -> x.end(-1));
        due("all are there", true, () -> x.end(10));
        due("nine", true, () -> x.end(9));
        due("ten no more", false, () -> x.end(10));
        due("four", true, () -> x.end(4));
        due("20 behind four", 24, () -> x.feed(0x3b637261, 0x73682020, 0x20202020, 0x20202020, 0x20202020));
        due("sync;crash", 2, () -> x.acts());
        Check.feed(x, "sync;flush");
        due("none", true, () -> x.end(0));
        due("no ACTS", 0, () -> x.acts());
    }

    /** What lies behind the TAPE's end from an earlier feed is no part of a text. */
    private static void whatIsCutOffIsNotRead() {
        x = new AsideStore();
        Check.feed(x, "syncsync");
        x.end(4);
        due("a word ends there", 1, () -> x.acts());
        Check.feed(x, "put 1 1 123");
        x.end(9);
        due("a number ends there", 1, () -> x.acts());
        due("SEED", 1, () -> x.key(1, 1));
        Check.feed(x, "put 1 1 123");
        x.end(8);
        due("none has begun there", Check.ARGUMENT, () -> x.acts());
        due("fault", 8, () -> x.fault());
        Check.feed(x, "sync;sync");
        x.end(4);
        due("no more comes", 1, () -> x.acts());
        Check.feed(x, "sync    x");
        x.end(6);
        due("blanks end there", 1, () -> x.acts());
        Check.feed(x, "put 1    1 1");
        x.end(7);
        due("blanks end there", Check.ARGUMENT, () -> x.acts());
        due("fault", 7, () -> x.fault());
    }

    /** An ACT is the same, told by a text or by a call, but for what is remembered. */
    private static void textsDoWhatCallsDo() {
        String[] texts = {"store 60 8 3 2", "put 1 20 1", "put 2 12 2", "put 3 5 3", "flush", "put 1 30 4", "drop 2", "sync",
            "put 4 40 5", "crash", "put 5 40 6", "flush", "merge", "put 6 40 7", "pick", "quit", "pick 1",
            "step 20", "drop 6", "merge", "crash"};
        List<Function<AsideStore, Object>> calls = List.of(y -> y.store(60, 8, 3, 2),
            y -> y.put(1, 20, 1), y -> y.put(2, 12, 2), y -> y.put(3, 5, 3), y -> y.flush(), y -> y.put(1, 30, 4),
            y -> y.drop(2), y -> y.sync(), y -> y.put(4, 40, 5), y -> y.crash(), y -> y.put(5, 40, 6), y -> y.flush(),
            y -> y.merge(), y -> y.put(6, 40, 7), y -> y.pick(-1), y -> y.quit(), y -> y.pick(1),
            y -> y.step(20), y -> y.drop(6), y -> y.merge(), y -> y.crash());
        x = new AsideStore();
        AsideStore other = new AsideStore();
        for (int i = 0; i < texts.length; i++) {
            String ahead = Picture.of(x);
            int at = i;
            due("the call is done", false, () -> Check.answerOf(() -> calls.get(at).apply(other)).startsWith("throws"));
            right(texts[i], 1);
            due(texts[i] + " comes to something", false, () -> ahead.equals(Picture.of(x)));
            Check.told(other, "");
            due(texts[i] + " does what the call does", Picture.of(other), () -> Picture.of(x));
            due("why", other.why(), () -> x.why());
        }
    }

    /** "[ ACT { ; ACT } ]": none at all, or ACTS with a ; between any two. */
    private static void aTextMayBeEmpty() {
        x = new AsideStore();
        right("", 0);
        right(" ", 0);
        right(" ".repeat(400), 0);
        right("sync", 1);
        right("sync;sync", 2);
        wrong(";", 0);
        wrong(" ;", 1);
        wrong(";sync", 0);
        wrong("sync;;sync", 5);
        wrong("sync; ;sync", 6);
        wrong("sync sync", 5);
        wrong("sync:sync", 4);
        wrong("sync,sync", 4);
    }

    /** "at most 14"; "of an ACT too many .. its first word". */
    private static void fourteenActsAtMost() {
        x = new AsideStore();
        right("sync;".repeat(12) + "sync", 13);
        right("sync;".repeat(13) + "sync", 14);
        right("sync;".repeat(13) + "sync  ", 14);
        wrong("sync;".repeat(14) + "sync", 70);
        wrong("sync;".repeat(14) + "   sync", 73);
        wrong("sync;".repeat(15) + "sync", 70);
        // an ACT too many is wrong at its first word, whatever stands behind that
        wrong("sync;".repeat(14) + "put 64 41 256", 70);
        wrong("sync;".repeat(14) + "put", 70);
        wrong("sync;".repeat(14) + "quit", 70);
        due("it was not tried", 0, () -> x.why());
        wrong("sync;".repeat(14) + "nothing", 70);
        wrong("sync;".repeat(14) + ";", 70);
        wrong("sync;".repeat(14), 70);
        wrong("sync;".repeat(14) + "  ", 72);
        wrong("sync;".repeat(13) + "quit;sync", 65);
        due("the fourteenth was tried", 5, () -> x.why());
        right("store 50 0 2 1;" + "put 1 1 1;".repeat(12) + "sync", 14);
    }

    /** "store N N N N | put N N N | drop N | sync | flush | crash | pick [ N ] | step N | quit | merge". */
    private static void eachActHasItsNumbers() {
        x = new AsideStore();
        right("store 60 9 7 4", 1);
        due("ROOM", 60, () -> x.count(0));
        due("SHORT", 9, () -> x.count(1));
        due("MOST", 7, () -> x.count(2));
        due("RUNS", 4, () -> x.count(3));
        wrong("store 60 9 7 4 5", 15);
        wrong("store 60 9 7;", 12);
        right("put 3 40 200", 1);
        due("LENGTH", 40, () -> x.key(3, 0));
        due("SEED", 200, () -> x.key(3, 1));
        wrong("put 3 4 200 1", 12);
        wrong("put 3 4;", 7);
        right("put 4 40 0", 1);
        right("pick 0;quit", 2);
        right("pick 0;step 20", 2);
        due("collected", 1, () -> x.count(16));
        wrong("step;", 4);
        wrong("step 1 1", 0);
        due("refused ahead of what stands behind it", 5, () -> x.why());
        right("drop 3", 1);
        wrong("drop 4 4", 7);
        wrong("drop;", 4);
        for (String word : new String[] {"sync", "flush", "crash", "merge"}) {
            right(word, 1);
            wrong(word + " 1", word.length() + 1);
            wrong(word + "1", word.length());
        }
        right("pick", 1);
        wrong("quit 0", 5);
        right("quit", 1);
        // calls of the face that are no ACTS of a text
        for (String word : new String[] {"undo", "image", "back", "end", "feed", "acts", "key", "room", "a", "z"}) {
            wrong(word, 0);
        }
    }

    /** "pick [ N ]". */
    private static void pickMayHaveANumber() {
        x = new AsideStore();
        right("store 50 0 16 4;put 1 40 1;put 2 30 2;put 3 40 3", 4);
        right("pick", 1);
        due("of none told: the one with the least LIVE", 1, () -> x.count(14));
        right("quit;pick 0", 2);
        due("of 0", 0, () -> x.count(14));
        right("quit ; pick ; quit", 3);
        right("pick000;quit;pick 001;quit", 4);
        wrong("pick 0 1", 7);
        wrong("pick 0000", 5);
        wrong("pick -1", 5);
        wrong("pick 12", 5);
        wrong("pick 2", 0);
        due("OPEN", 4, () -> x.why());
        right("pick;quit ;pick 1 ;quit", 4);
    }

    /** "(a number .. out of its bounds ..)": wrong at its begin. */
    private static void boundsOfNumbers() {
        x = new AsideStore();
        x.store(50, 0, 16, 4);
        right("put 0 1 0;put 63 40 255;put 1 40 0", 3);
        wrong("put 64 1 0", 4);
        wrong("put 999 1 0", 4);
        wrong("put 0 0 0", 6);
        wrong("put 0 41 0", 6);
        wrong("put 0 1 256", 8);
        wrong("drop 64", 5);
        right("pick 0;step 1;quit;drop 63;drop 0", 5);
        wrong("pick 12", 5);
        wrong("step 0", 5);
        wrong("step 21", 5);
        right("put 5 40 0;pick 1;step 20", 3);
        wrong("store 49 0 2 1", 6);
        wrong("store 201 0 2 1", 6);
        wrong("store 50 41 2 1", 9);
        wrong("store 50 0 1 1", 11);
        wrong("store 50 0 17 1", 11);
        wrong("store 50 0 2 0", 13);
        wrong("store 50 0 2 5", 13);
        right("store 50 0 2 1;store 200 40 16 4", 2);
        // of two that are out of their bounds the first
        wrong("put 64 0 256", 4);
        wrong("put 63 0 256", 7);
        wrong("sync;put 63 41 256", 12);
    }

    /** "Numbers are of 1 to 3 digits"; "a number of more digits" is wrong at its begin. */
    private static void digitsAre1To3() {
        x = new AsideStore();
        right("put 5 1 0", 1);
        right("put 05 01 00", 1);
        right("put 005 001 000", 1);
        due("KEY 5 alone", 1, () -> x.count(6));
        right("put 000 040 255", 1);
        wrong("put 0005 1 0", 4);
        wrong("put 5 0001 0", 6);
        wrong("put 5 1 0000", 8);
        wrong("put 5 1 00000000000000000000", 8);
        wrong("put 5 1 4294967296", 8);
        wrong("drop 18446744073709551616", 5);
        wrong("step 1000", 5);
        right("store 100 008 006 003", 1);
        wrong("store 0100 8 6 3", 6);
        // '/' and ':' lie beside the digits
        wrong("put / 1 0", 4);
        wrong("put : 1 0", 4);
        wrong("put 5/1 0", 5);
        wrong("put 5: 1 0", 5);
        right("put 9 9 9;put 0 9 0", 2);
        // one digit is the least: a word, a sign or the end in its place is wrong there
        wrong("put x 1 0", 4);
        wrong("put +5 1 0", 4);
        wrong("put 5 -1 0", 6);
        wrong("put 5,1,0", 5);
        wrong("put 5 1 ;sync", 8);
    }

    /** "words as long as a to z go on". */
    private static void wordsAreAToZ() {
        x = new AsideStore();
        wrong("syncz", 0);
        wrong("async", 0);
        wrong("synca", 0);
        wrong("syn", 0);
        wrong("putt 1 1 1", 0);
        wrong("pu 1 1 1", 0);
        wrong("syncflush", 0);
        wrong("s", 0);
        // '`' and '{' lie beside a and z, A and Z are others
        wrong("sync`", 4);
        wrong("sync{", 4);
        wrong("syncA", 4);
        wrong("SYNC", 0);
        wrong("Sync", 0);
        wrong("`sync", 0);
        wrong("{sync", 0);
        right("put1 1 1", 1);
        right("drop1;put2 2 2;pick".substring(0, 14), 2);
        wrong("s ync", 0);
        wrong("sy;nc", 0);
        wrong("store1 1 1 1", 5);
        for (String word : new String[] {"store", "put", "drop", "sync", "flush", "crash", "pick", "step", "quit", "merge"}) {
            for (int i = 0; i < word.length(); i++) {
                for (char sign : new char[] {'a', 'j', 'z'}) {
                    wrong(word.substring(0, i) + sign + word.substring(i + (word.charAt(i) == sign ? 0 : 1)), 0);
                }
                wrong(word.substring(0, i) + word.substring(i + 1), 0);
            }
        }
        wrong("a".repeat(400), 0);
        wrong("sync;" + "z".repeat(395), 5);
    }

    /** "between all there may be blanks (32), also ahead and behind." */
    private static void blanksAre32() {
        x = new AsideStore();
        right("   put    1     1    1    ;    sync    ", 2);
        right("put 1 1 1;sync", 2);
        right("put1 1 1;sync", 2);
        right(" ".repeat(396) + "sync", 1);
        right("sync" + " ".repeat(396), 1);
        right("put" + " ".repeat(100) + "1" + " ".repeat(100) + "1" + " ".repeat(100) + "1 ;" + " ".repeat(85) + "sync", 2);
        for (int other : new int[] {0, 9, 10, 13, 31, 33, 160}) {
            String sign = String.valueOf((char) other);
            wrong(sign, 0);
            wrong(sign + "sync", 0);
            wrong("sync" + sign, 4);
            wrong("sync" + sign + ";sync", 4);
            wrong("sync;" + sign + "sync", 5);
            wrong("put" + sign + "1 1 1", 3);
            wrong("put 1" + sign + "1 1", 5);
            wrong("put 1 1 1" + sign, 9);
        }
        // without a blank between them two numbers are one
        wrong("put 11 1", 8);
        right("put 1 11 1", 1);
    }

    /** "They are done one behind another". */
    private static void doneOneBehindAnother() {
        x = new AsideStore();
        right("put 5 1 1;drop 5", 2);
        wrong("drop 5;put 5 1 1", 0);
        due("no VALUE yet", 2, () -> x.why());
        wrong("put 5 1 1;drop 5;drop 5", 17);
        due("no VALUE any more", 2, () -> x.why());
        right("store 50 0 2 1;put 1 40 1;put 2 40 2;pick;step 1", 5);
        due("WRITTEN BACK", 1, () -> x.count(16));
        right("store 50 0 2 1;put 1 40 1;store 200 0 2 1", 3);
        due("the later TERMS", 200, () -> x.count(0));
        due("nothing of what was ahead", 0, () -> x.count(7));
    }

    /** "each read whole ahead of it": an ACT that would be refused is wrong by its number first. */
    private static void readWholeAhead() {
        x = new AsideStore();
        wrong("drop 64", 5);
        due("it was not tried", 0, () -> x.why());
        wrong("step 0", 5);
        due("it was not tried", 0, () -> x.why());
        wrong("step", 4);
        due("it was not tried", 0, () -> x.why());
        wrong("pick 12", 5);
        due("it was not tried", 0, () -> x.why());
        wrong("pick 0011", 5);
        due("it was not tried", 0, () -> x.why());
        // but what stands behind it does not belong to it
        wrong("drop 63;x", 0);
        due("tried", 2, () -> x.why());
        wrong("pick;x", 0);
        due("tried", 4, () -> x.why());
        wrong("quit;".repeat(20), 0);
        due("tried", 5, () -> x.why());
    }

    /** "one that is refused, its first word", by each of the numbers. */
    private static void wrongByItsFirstWord() {
        x = new AsideStore();
        wrong("  drop   63", 2);
        due("2", 2, () -> x.why());
        wrong("sync ;  pick 11", 8);
        due("4", 4, () -> x.why());
        wrong("flush;step 20", 6);
        due("5", 5, () -> x.why());
        wrong("merge;quit", 6);
        due("5", 5, () -> x.why());
        right("store 50 0 16 4;put 1 40 1;put 2 40 2;pick 0", 4);
        wrong("sync;pick 0", 5);
        due("3", 3, () -> x.why());
        right("quit;put 3 40 0;put 4 40 0;put 5 40 0;put 6 40 0", 5);
        right("put 7 40 0;put 8 40 0;put 9 40 0;put 10 40 0;put 11 40 0", 5);
        wrong("put 12 40 0; put 13 40 0", 13);
        due("1", 1, () -> x.why());
        right("put 12 40 0", 1);
        wrong("pick 0;  step 1", 9);
        due("1, of a STEP", 1, () -> x.why());
        right("put 13 2 0", 1);
        wrong("drop 13", 0);
        due("1 ahead of 2", 1, () -> x.why());
        wrong("drop 63", 0);
        due("1 ahead of 2", 1, () -> x.why());
    }

    /** "or the text's length, if more must come." */
    private static void moreMustCome() {
        x = new AsideStore();
        wrong("sync;", 5);
        wrong("sync; ", 6);
        wrong(" sync ; ", 8);
        for (String act : new String[] {"store 50 0 2 1", "put 1 1 1", "drop 1", "step 1"}) {
            for (int behind = act.indexOf(' '); behind < act.length() - 1; behind++) {
                if (act.substring(0, behind).equals("store 5")) {
                    continue; // out of its bounds already
                }
                wrong(act.substring(0, behind), behind);
                wrong(act.substring(0, behind) + "  ", behind + 2);
                wrong("sync;" + act.substring(0, behind), behind + 5);
            }
        }
        wrong(" ".repeat(397) + "put", 400);
        wrong("sync" + " ".repeat(395) + ";", 400);
        // the end of the TAPE, not of what was fed
        Check.feed(x, "put 1 1 1");
        x.end(7);
        due("cut", Check.ARGUMENT, () -> x.acts());
        due("fault", 7, () -> x.fault());
    }

    /** "Of a wrong text nothing stays." */
    private static void nothingStays() {
        x = new AsideStore();
        x.store(50, 8, 3, 2);
        x.put(1, 9, 1);
        x.put(2, 9, 2);
        x.put(4, 9, 4);
        x.flush();
        x.put(3, 20, 3);
        x.drop(1);
        x.sync();
        x.put(1, 5, 5);
        x.pick(0);
        x.step(1);
        for (String acts : new String[] {"put 9 40 9;", "drop 2;", "sync;", "flush;", "merge;", "crash;", "quit;", "quit;pick 0;",
            "step 20;", "store 200 40 16 4;", "store 50 8 3 2;put 1 1 1;flush;"}) {
            wrong(acts, acts.length());
            wrong(acts + "x", acts.length());
            wrong(acts + "put 64 1 1", acts.length() + 4);
            wrong(acts + "drop 60", acts.length());
            due("refused", 2, () -> x.why());
        }
        due("what was remembered is so still", 8, () -> x.count(25));
        due("undo", 7, () -> x.undo());
        due("two left again", 2, () -> x.count(15));
        x.image();
        wrong("crash;store 60 0 2 1;", 21);
        due("THE IMAGE stays", true, () -> x.back());
    }

    /** "ACTS are told, and done: how many." */
    private static void howManyWereDone() {
        x = new AsideStore();
        for (int n = 1; n <= 14; n++) {
            right("put 1 1 1;".repeat(n - 1) + "put 1 1 1", n);
        }
        due("all of them", 14 * 15 / 2, () -> x.count(7));
    }

    /** "The first wrong byte of the latest text that was read; NONE without one, and ahead of any." */
    private static void faultOfTheLatest() {
        x = new AsideStore();
        due("ahead of any", -1, () -> x.fault());
        Check.feed(x, "sync;x");
        due("fed, not read", -1, () -> x.fault());
        due("read", Check.ARGUMENT, () -> x.acts());
        due("wrong", 5, () -> x.fault());
        x.sync();
        x.image();
        x.back();
        x.store(50, 0, 2, 1);
        due("refused", Check.STATE, () -> x.quit());
        due("other calls leave it", 5, () -> x.fault());
        due("the TAPE is used up, so the next is empty", 0, () -> x.acts());
        due("without one", -1, () -> x.fault());
        wrong("x", 0);
        due("a byte 0", 0, () -> x.fault());
        right("sync", 1);
    }

    /** "0, if .. by a text that was right and has an ACT (a text that is wrong otherwise, or has none, leaves WHY)." */
    private static void whyOfTexts() {
        for (int why : new int[] {0, 2, 5}) {
            x = new AsideStore();
            if (why == 2) {
                due("by a call", Check.STATE, () -> x.drop(1));
            } else if (why == 5) {
                wrong("quit", 0);
            }
            due("why", why, () -> x.why());
            right("", 0);
            due("a text of none leaves it", why, () -> x.why());
            right("  ", 0);
            due("a text of blanks leaves it", why, () -> x.why());
            wrong("sync;x", 5);
            due("a wrong word leaves it", why, () -> x.why());
            wrong("put 1 1 1;put 1 1", 17);
            due("an end too soon leaves it", why, () -> x.why());
            wrong("put 64 1 1", 4);
            due("a wrong number leaves it", why, () -> x.why());
            wrong("sync;".repeat(14) + "quit", 70);
            due("an ACT too many leaves it", why, () -> x.why());
            wrong("sync;pick", 5);
            due("one that is refused sets it", 4, () -> x.why());
            right("sync", 1);
            due("a right one clears it", 0, () -> x.why());
        }
    }
}
