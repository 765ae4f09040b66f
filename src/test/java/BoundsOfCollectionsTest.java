/** LIVE and DEAD, PICK, STEP, QUIT, TAKEN BACK, WHY and THE IMAGE: the first, the last, none, and what is refused. */
public final class BoundsOfCollectionsTest {
    private static AsideStore x;

    public static void main(String[] args) {
        whatIsLive();
        liveAndDeadOfASegment();
        pickOfNoneTold();
        pickIsRefused();
        stepsFewerThanNoted();
        stepsAsManyAndMore();
        stepsWithNoneNoted();
        skipped();
        writtenBackLikeByPut();
        stepWithoutRoom();
        laterOnesWithoutRoom();
        theSegmentStaysSealed();
        quitAndNoneIsOn();
        takenBack();
        notedAsAhead();
        whatIsNotRemembered();
        noneAreRemembered();
        whyOfCalls();
        theImage();
        Check.end();
    }

    private static void due(String what, Object due, Check.Call call) {
        Check.due(what, due, call);
    }

    private static void refused(String what, int why, Check.Call call) {
        String ahead = Picture.of(x);
        due(what, Check.STATE, call);
        due(what + ", why", why, () -> x.why());
        due(what + " changes nothing", ahead, () -> Picture.of(x));
    }

    private static void store(int room, int brief, int most, int runs) {
        x = new AsideStore();
        x.store(room, brief, most, runs);
    }

    /** 0 is SEALED with the KEYS 1, 2 and 3 (14, 15 and 16 bytes), 1 is OPEN with 4 (34). */
    private static void threeInOne() {
        store(50, 8, 16, 4);
        x.put(1, 10, 1);
        x.put(2, 11, 2);
        x.put(3, 12, 3);
        x.put(4, 30, 4);
    }

    /** "A RECORD is LIVE, if the CURRENT ENTRY of its KEY is LONG and points to it." */
    private static void whatIsLive() {
        store(200, 8, 16, 4);
        x.put(1, 8, 1);
        x.put(1, 9, 1);
        due("a short one is not", 0, () -> x.record(0, 0, 4));
        due("a long one is", 1, () -> x.record(0, 1, 4));
        x.put(1, 9, 1);
        due("the one ahead, though alike, is no more", 0, () -> x.record(0, 1, 4));
        due("the latest is", 1, () -> x.record(0, 2, 4));
        x.flush();
        due("so it is in a RUN", 1, () -> x.record(0, 2, 4));
        x.drop(1);
        due("DROPPED", 0, () -> x.record(0, 2, 4));
        due("nor is the DROP", 0, () -> x.record(0, 3, 4));
        x.crash();
        due("the DROP is lost", 1, () -> x.record(0, 2, 4));
        x.put(1, 8, 1);
        due("a short one in its place", 0, () -> x.record(0, 2, 4));
        due("is not LIVE itself", 0, () -> x.record(0, 3, 4));
    }

    /** "LIVE of a SEGMENT: SIZES of its LIVE RECORDS, together; DEAD: those of its other ones." */
    private static void liveAndDeadOfASegment() {
        threeInOne();
        due("all LIVE", 45, () -> x.segment(0, 3));
        due("none DEAD", 0, () -> x.segment(0, 4));
        due("GAIN below 0", -45, () -> x.segment(0, 6));
        x.drop(2);
        due("LIVE", 30, () -> x.segment(0, 3));
        due("DEAD", 15, () -> x.segment(0, 4));
        due("GAIN", -15, () -> x.segment(0, 6));
        due("the DROP is DEAD from the first", 4, () -> x.segment(1, 4));
        x.drop(1);
        x.drop(3);
        due("none LIVE", 0, () -> x.segment(0, 3));
        due("all DEAD", 45, () -> x.segment(0, 4));
        due("GAIN", 45, () -> x.segment(0, 6));
        due("GAIN of the OPEN one", 0, () -> x.segment(1, 6));
        due("GAIN of a FREE one", 0, () -> x.segment(11, 6));
        due("LIVE of all", 34, () -> x.count(12));
        due("DEAD of all", 45 + 12, () -> x.count(13));
    }

    /** "of none told: of those the one with the least LIVE, of several the least". */
    private static void pickOfNoneTold() {
        store(50, 8, 16, 4);
        x.put(1, 40, 1);
        due("the OPEN one is none of them", -1, () -> x.count(23));
        x.put(2, 40, 2);
        due("the only one", 0, () -> x.count(23));
        x.put(3, 39, 3);
        due("of several alike the least", 0, () -> x.count(23));
        x.put(4, 40, 4);
        due("the one with the least", 2, () -> x.count(23));
        due("PICK takes it", 1, () -> x.pick(-1));
        due("it", 2, () -> x.count(14));
        due("were none on", 2, () -> x.count(23));
        x.quit();
        x.drop(2);
        due("LIVE 0", 1, () -> x.count(23));
        due("none is NOTED", 0, () -> x.pick(-1));
        due("it", 1, () -> x.count(14));
        x.quit();
        x.drop(1);
        due("two of 0: the least", 0, () -> x.count(23));
        due("the first STEP is through", 0, () -> x.pick(-1) + x.step(1));
        due("then the other", 1, () -> x.count(23));
    }

    /** "Refused: 3: one is on; 4: it is not SEALED (none is)." */
    private static void pickIsRefused() {
        x = new AsideStore();
        refused("none is SEALED", 4, () -> x.pick(-1));
        refused("0 is OPEN", 4, () -> x.pick(0));
        refused("11 is FREE", 4, () -> x.pick(11));
        threeInOne();
        refused("1 is OPEN", 4, () -> x.pick(1));
        refused("2 is FREE", 4, () -> x.pick(2));
        due("0 is SEALED", 3, () -> x.pick(0));
        due("why", 0, () -> x.why());
        for (int segment = -1; segment < 12; segment++) {
            int s = segment;
            refused("one is on", 3, () -> x.pick(s));
        }
        due("three are NOTED still", 3, () -> x.count(15));
        x.quit();
        due("again", 3, () -> x.pick(0));
    }

    /** "STEP n: so many times, as long as it is on: the next NOTED RECORD". */
    private static void stepsFewerThanNoted() {
        threeInOne();
        x.pick(0);
        due("one", 1, () -> x.step(1));
        due("the first, in order", 1, () -> x.key(1, 4));
        due("the second not yet", 0, () -> x.key(2, 4));
        due("left", 2, () -> x.count(15));
        due("no FLUSH yet", 0, () -> x.count(4));
        due("one more", 1, () -> x.step(1));
        due("the second", 2, () -> x.key(2, 4));
        due("left", 1, () -> x.count(15));
        due("SEALED still", 2, () -> x.segment(0, 0));
        due("on", 0, () -> x.count(14));
    }

    /** "when all are through ..: FLUSH, the SEGMENT is FREE, its RECORDS are gone, it is on no more." */
    private static void stepsAsManyAndMore() {
        for (int n : new int[] {2, 3, 4, 20}) {
            threeInOne();
            x.pick(0);
            due("STEP " + n, Math.min(n, 3), () -> x.step(n));
            boolean through = n >= 3;
            due("FREE", through ? 0 : 2, () -> x.segment(0, 0));
            due("RECORDS", through ? 0 : 3, () -> x.segment(0, 1));
            due("bytes", through ? 0 : 45, () -> x.segment(0, 2));
            due("on", through ? -1 : 0, () -> x.count(14));
            due("left", through ? 0 : 1, () -> x.count(15));
            due("a FLUSH", through ? 1 : 0, () -> x.count(4));
            due("SECURED", through ? 7 : 0, () -> x.count(8));
            due("the row", through ? 2 : 4, () -> x.log(x.count(26) - 1, 0));
            due("VALUES", 4, () -> x.count(6));
            if (through) {
                refused("it is on no more", 5, () -> x.step(1));
            }
        }
        // the last NOTED one ends it in its own STEP, and the FLUSH has it
        threeInOne();
        x.pick(0);
        x.step(2);
        due("the last", 1, () -> x.step(1));
        due("on no more", -1, () -> x.count(14));
        due("all are in the RUN", 4, () -> x.run(0, 0));
        due("the TABLE has none", 0, () -> x.count(5));
    }

    /** "(also with none, in the first STEP)". */
    private static void stepsWithNoneNoted() {
        for (int n : new int[] {1, 20}) {
            store(50, 8, 16, 4);
            x.put(1, 8, 1);
            x.put(2, 40, 2);
            x.drop(2);
            x.put(3, 40, 3);
            due("SEALED", 2, () -> x.segment(1, 0));
            due("none NOTED", 0, () -> x.pick(1));
            due("on", 1, () -> x.count(14));
            due("SEALED until the STEP", 2, () -> x.segment(1, 0));
            due("none", 0, () -> x.step(n));
            due("FREE", 0, () -> x.segment(1, 0));
            due("a FLUSH", 1, () -> x.count(4));
            due("on no more", -1, () -> x.count(14));
            due("none SKIPPED", 0, () -> x.count(17));
        }
    }

    /** "if it is LIVE still, it is APPENDED anew ..; else SKIPPED". */
    private static void skipped() {
        threeInOne();
        x.pick(0);
        x.drop(1);
        x.put(2, 11, 2);
        x.put(3, 5, 3);
        due("NOTED still", 3, () -> x.count(15));
        due("SKIPPED", 0, () -> x.step(1));
        due("ever", 1, () -> x.count(17));
        due("left", 2, () -> x.count(15));
        due("SKIPPED", 0, () -> x.step(1));
        due("the last one ends it", 0, () -> x.step(1));
        due("ever", 3, () -> x.count(17));
        due("none WRITTEN BACK", 0, () -> x.count(16));
        due("FREE", 0, () -> x.segment(0, 0));
        due("as told", 5, () -> x.key(3, 0));
        // what is told between two STEPS counts, not what was when it was PICKED
        threeInOne();
        x.pick(0);
        x.step(1);
        x.put(1, 12, 9);
        x.drop(2);
        due("2 is SKIPPED, 3 is not", 1, () -> x.step(2));
        due("SKIPPED", 1, () -> x.count(17));
        due("WRITTEN BACK", 2, () -> x.count(16));
        due("1 is as told since", 9, () -> x.key(1, 1));
        due("a KEY that is PUT anew is not LIVE there", -1, () -> x.key(2, 0));
    }

    /** "put into the TABLE like by PUT (a FLUSH ahead, if need be), WRITTEN BACK". */
    private static void writtenBackLikeByPut() {
        store(50, 0, 2, 4);
        x.put(1, 10, 1);
        x.put(2, 11, 2);
        x.put(3, 12, 3);
        x.put(4, 30, 4);
        // the TABLE has 3 and 4, a RUN 1 and 2
        due("full", 2, () -> x.count(5));
        x.pick(0);
        due("1", 1, () -> x.step(1));
        due("a FLUSH ahead", 2, () -> x.count(4));
        due("SECURED: not its own", 4, () -> x.count(8));
        due("its ENTRY alone", 1, () -> x.count(5));
        due("TOLD is not more", 100 * (79 + 14) / 79, () -> x.count(20));
        due("WRITTEN is", 79 + 14, () -> x.count(18));
        due("NUMBER", 5, () -> x.key(1, 3));
        due("LENGTH", 10, () -> x.key(1, 0));
        due("SEED", 1, () -> x.key(1, 1));
        store(50, 0, 2, 4);
        x.put(1, 10, 1);
        x.put(3, 12, 3);
        x.put(1, 30, 4);
        due("full of 1 and 3", 2, () -> x.count(5));
        due("3 is LIVE", 1, () -> x.pick(0));
        due("a KEY of the TABLE needs no FLUSH ahead", 1, () -> x.step(1));
        due("one RUN, of the end", 1, () -> x.count(4));
        due("of two", 2, () -> x.run(0, 0));
    }

    /** 0 has the KEYS 0 to 2 (12 bytes each), 1 to 10 are of 44, 11 has as many bytes left as told. */
    private static void leaving(int left) {
        store(50, 0, 16, 4);
        x.put(0, 8, 0);
        x.put(1, 8, 1);
        x.put(2, 8, 2);
        for (int key = 3; key < 13; key++) {
            x.put(key, 40, key);
        }
        x.put(13, left < 6 ? 20 : 46 - left, 13);
        if (left < 6) {
            x.put(14, 22 - left, 14);
        }
        due("left", left, () -> x.count(22));
        x.pick(0);
    }

    /** "1: of those n no room for the first one that is to be WRITTEN BACK". */
    private static void stepWithoutRoom() {
        leaving(11);
        refused("12 of 11", 1, () -> x.step(1));
        refused("12 of 11", 1, () -> x.step(20));
        leaving(12);
        due("12 of 12", 1, () -> x.step(1));
        due("no byte is left", 0, () -> x.count(22));
        refused("then no more", 1, () -> x.step(1));
        // one that is SKIPPED needs none; with n too few to come to the first it is not refused
        leaving(15);
        x.drop(0);
        refused("the second has no room", 1, () -> x.step(2));
        due("SKIPPED", 0, () -> x.step(1));
        due("ever", 1, () -> x.count(17));
        refused("the second has no room", 1, () -> x.step(1));
        leaving(12);
        x.drop(0);
        x.drop(1);
        x.drop(2);
        due("no byte is left", 0, () -> x.count(22));
        due("none is to be WRITTEN BACK", 0, () -> x.step(20));
        due("through", 0, () -> x.segment(0, 0));
        due("ever", 3, () -> x.count(17));
        // room in a FREE one is room
        leaving(4);
        x.quit();
        x.drop(3);
        x.pick(1);
        x.step(1);
        due("1 is FREE", 50, () -> x.count(22));
        due("three", 3, () -> x.pick(0) == 3 ? x.step(3) : -1);
        due("they lie in it", 1, () -> x.key(0, 4));
    }

    /** "(further ones without room end the STEP there)". */
    private static void laterOnesWithoutRoom() {
        leaving(12);
        due("the first", 1, () -> x.step(2));
        due("why", 0, () -> x.why());
        due("left", 2, () -> x.count(15));
        due("on", 0, () -> x.count(14));
        leaving(24);
        due("two of three", 2, () -> x.step(20));
        due("left", 1, () -> x.count(15));
        due("SEALED still", 2, () -> x.segment(0, 0));
        due("no FLUSH", 0, () -> x.count(4));
        refused("the third", 1, () -> x.step(1));
        leaving(36);
        due("all three", 3, () -> x.step(20));
        due("FREE", 0, () -> x.segment(0, 0));
        // a SKIPPED one between them counts as through, and the STEP ends behind it
        leaving(17);
        x.drop(1);
        due("the first", 1, () -> x.step(20));
        due("the second is SKIPPED", 1, () -> x.count(17));
        due("the third is left", 1, () -> x.count(15));
        due("it was done", 0, () -> x.why());
    }

    /** "While it is on its SEGMENT cannot be OPEN or FREE." */
    private static void theSegmentStaysSealed() {
        threeInOne();
        x.pick(0);
        for (int i = 0; i < 10; i++) {
            x.put(i % 4 + 1, 40, i);
        }
        due("all others are taken", 0, () -> x.count(10));
        due("SEALED", 2, () -> x.segment(0, 0));
        refused("nothing goes there", 1, () -> x.put(1, 40, 0));
        due("on", 0, () -> x.count(14));
        due("all are SKIPPED", 0, () -> x.step(3));
        due("FREE", 0, () -> x.segment(0, 0));
        due("now it does", 15, () -> x.put(1, 40, 0));
        due("there", 0, () -> x.key(1, 4));
    }

    /** "QUIT: it is on no more (5)."; "how many NOTED ones were left". */
    private static void quitAndNoneIsOn() {
        x = new AsideStore();
        refused("none is on", 5, () -> x.quit());
        refused("none is on", 5, () -> x.step(1));
        threeInOne();
        x.pick(0);
        due("all left", 3, () -> x.quit());
        due("why", 0, () -> x.why());
        refused("again", 5, () -> x.quit());
        x.pick(0);
        x.step(2);
        due("one left", 1, () -> x.quit());
        due("what was WRITTEN BACK stays", 2, () -> x.count(16));
        due("SEALED", 2, () -> x.segment(0, 0));
        due("LIVE", 16, () -> x.segment(0, 3));
        due("none left", -1, () -> x.count(14) + x.count(15));
        x.drop(3);
        x.pick(0);
        due("none NOTED: 0 left", 0, () -> x.quit());
        due("SEALED still", 2, () -> x.segment(0, 0));
    }

    /** "the latest ACT that was done by a call and not refused, not taken back yet (8 are remembered)". */
    private static void takenBack() {
        x = new AsideStore();
        due("there is none", Check.STATE, () -> x.undo());
        String[] pictures = new String[12];
        for (int i = 0; i < 11; i++) {
            pictures[i] = answers();
            int n = i;
            x.put(i, 10 + i, i);
            due("remembered", Math.min(8, n + 1), () -> x.count(25));
        }
        for (int i = 10; i > 2; i--) {
            int n = i;
            due("undo", n - 3, () -> x.undo());
            due("as ahead of it", pictures[n], () -> answers());
        }
        due("the ninth is forgotten", Check.STATE, () -> x.undo());
        due("three are done", 3, () -> x.count(7));
        x.put(1, 1, 1);
        due("what comes behind is remembered", 1, () -> x.count(25));
        due("undo", 0, () -> x.undo());
        due("not taken back twice", Check.STATE, () -> x.undo());
        // around the ring: 8, then some back, then more than 8 again
        for (int i = 0; i < 8; i++) {
            x.put(9, 1 + i, i);
        }
        x.undo();
        x.undo();
        x.undo();
        due("five", 5, () -> x.count(25));
        for (int i = 0; i < 6; i++) {
            x.put(10, 1 + i, i);
        }
        due("eight", 8, () -> x.count(25));
        for (int i = 5; i >= 0; i--) {
            x.undo();
            int n = i;
            due("10 again", n == 0 ? -1 : n, () -> x.key(10, 0));
        }
        due("two of 9 are left", 2, () -> x.count(25));
        due("9", 5, () -> x.key(9, 0));
        x.undo();
        due("9", 4, () -> x.key(9, 0));
        x.undo();
        due("9", 3, () -> x.key(9, 0));
        due("no more", Check.STATE, () -> x.undo());
    }

    /** What is NOTED is a part of all, too: another PICK since then has gone over it. */
    private static void notedAsAhead() {
        for (int way = 0; way < 3; way++) {
            threeInOne();
            x.put(5, 40, 5);
            x.put(6, 40, 6);
            x.pick(0);
            x.image();
            if (way == 0) {
                x.quit();
                x.pick(2);
                x.undo();
                x.undo();
            } else if (way == 1) {
                x.quit();
                x.pick(2);
                x.step(1);
                x.back();
            } else {
                due("a wrong text", Check.ARGUMENT, () -> Check.told(x, "quit;pick 2;step 1;x"));
            }
            due("on", 0, () -> x.count(14));
            due("left", 3, () -> x.count(15));
            due("these", 3, () -> x.step(3));
            due("1 is WRITTEN BACK", 7, () -> x.key(1, 3));
            due("2 is WRITTEN BACK", 8, () -> x.key(2, 3));
            due("3 is WRITTEN BACK", 9, () -> x.key(3, 3));
            due("5 is not", 2, () -> x.key(5, 4));
            due("FREE", 0, () -> x.segment(0, 0));
            due("VALUES", 6, () -> x.count(6));
            due("SKIPPED", 0, () -> x.count(17));
        }
    }

    /** All answers but of what is remembered. */
    private static String answers() {
        return Picture.of(x).replaceFirst("(count: (\\S+ ){25})\\S+ ", "$1");
    }

    /** Calls that are no ACTS, or refused, are not remembered. */
    private static void whatIsNotRemembered() {
        threeInOne();
        x.store(50, 8, 16, 4);
        x.put(1, 40, 1);
        x.put(2, 40, 2);
        due("two", 2, () -> x.count(25));
        refused("drop", 2, () -> x.drop(3));
        refused("pick", 4, () -> x.pick(5));
        refused("step", 5, () -> x.step(1));
        due("wrong", Check.INDEX, () -> x.put(64, 1, 1));
        due("wrong", Check.ARGUMENT, () -> x.put(1, 41, 1));
        due("wrong", Check.ARGUMENT, () -> x.store(49, 0, 2, 1));
        due("wrong", Check.ARGUMENT, () -> Check.told(x, "sync;x"));
        x.image();
        x.feed(0, 0, 0, 0, 0);
        x.end(0);
        due("two still", 2, () -> x.count(25));
        // what changes nothing is an ACT all the same
        x.sync();
        x.sync();
        x.merge();
        x.pick(0);
        x.quit();
        due("five more", 7, () -> x.count(25));
        due("the QUIT", 6, () -> x.undo());
        due("is on again", 0, () -> x.count(14));
        due("the PICK", 5, () -> x.undo());
        due("is not on", -1, () -> x.count(14));
    }

    /** "STORE told, a text that is right, going back: none are remembered." */
    private static void noneAreRemembered() {
        x = new AsideStore();
        x.put(1, 1, 1);
        x.store(50, 0, 2, 1);
        due("STORE", 0, () -> x.count(25));
        due("nor itself", Check.STATE, () -> x.undo());
        x.put(1, 1, 1);
        due("a right text", 1, () -> Check.told(x, "sync"));
        due("none", 0, () -> x.count(25));
        due("nor its ACTS", Check.STATE, () -> x.undo());
        x.put(1, 1, 1);
        due("a right text without ACTS", 0, () -> Check.told(x, ""));
        due("none", 0, () -> x.count(25));
        x.put(1, 1, 1);
        due("a wrong text", Check.ARGUMENT, () -> Check.told(x, "sync;"));
        due("leaves it", 1, () -> x.count(25));
        due("going back without an IMAGE", false, () -> x.back());
        due("leaves it", 1, () -> x.count(25));
        x.image();
        due("keeping leaves it", 1, () -> x.count(25));
        due("going back", true, () -> x.back());
        due("none", 0, () -> x.count(25));
        due("none", Check.STATE, () -> x.undo());
    }

    /** "WHY (0 at first): of the latest ACT by a call .. the number by which it was refused; 0, if it was done". */
    private static void whyOfCalls() {
        x = new AsideStore();
        due("at first", 0, () -> x.why());
        threeInOne();
        x.pick(0);
        refused("pick", 3, () -> x.pick(0));
        Check.Call[] done = {() -> x.put(9, 9, 9), () -> x.drop(9), () -> x.sync(), () -> x.flush(), () -> x.merge(),
            () -> x.step(1), () -> x.quit(), () -> x.pick(0), () -> x.crash(), () -> x.store(50, 8, 16, 4)};
        for (Check.Call act : done) {
            Check.answerOf(() -> x.drop(60));
            due("refused", 2, () -> x.why());
            due("done", true, () -> !Check.answerOf(act).startsWith("throws"));
            due("0", 0, () -> x.why());
        }
        refused("quit", 5, () -> x.quit());
        x.count(1);
        x.key(1, 1);
        x.image();
        x.back();
        x.feed(0, 0, 0, 0, 0);
        x.end(0);
        due("what is asked leaves it", 5, () -> x.why());
        due("a number that is none leaves it", Check.INDEX, () -> x.drop(-1));
        due("5", 5, () -> x.why());
        due("undo without one leaves it", Check.STATE, () -> x.undo());
        due("5", 5, () -> x.why());
    }

    /** "THE IMAGE (one) of all may be kept, and gone back to (but for the TAPE, fault(), WHY and THE IMAGE itself)." */
    private static void theImage() {
        x = new AsideStore();
        due("none was kept", false, () -> x.back());
        threeInOne();
        x.flush();
        x.pick(0);
        x.step(1);
        x.drop(3);
        String first = answers();
        x.image();
        x.step(20);
        x.store(200, 0, 2, 1);
        x.put(1, 1, 1);
        due("back", true, () -> x.back());
        due("all is as it was", first, () -> answers());
        x.step(20);
        String second = answers();
        x.image();
        x.crash();
        due("back to the later one", true, () -> x.back());
        due("there is one alone", second, () -> answers());
        x.crash();
        due("it is there still", true, () -> x.back());
        due("as it was", second, () -> answers());
        Check.answerOf(() -> Check.told(x, "sync;y"));
        Check.answerOf(() -> x.quit());
        Check.feed(x, "sync");
        due("back", true, () -> x.back());
        due("fault stays", 5, () -> x.fault());
        due("WHY stays", 5, () -> x.why());
        due("the TAPE stays", 1, () -> x.acts());
    }
}
