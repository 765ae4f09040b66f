import java.util.function.Consumer;
import java.util.function.Function;

/**
 * "Of several exceptions the one told first is thrown; a call that throws changes nothing but the TAPE, where it is
 * used up, fault(), where a text is read, and WHY, where an ACT is refused." Two objects are told the same, one of them
 * one call more: behind it all that can be asked, remembered, kept and read must be alike.
 */
public final class RefusalsTest {
    /** WHY as it was. */
    private static final int LEFT = -7;

    private static Consumer<AsideStore> ahead;
    private static String state;

    public static void main(String[] args) {
        inAnObjectThatIsNew();
        inAnObjectOfAllKinds();
        inAFullOne();
        withOneOn();
        withOneOnThatHasNoRoom();
        withoutRememberedActs();
        Check.end();
    }

    /** What is due of a call in the state that stands: its answer, WHY behind it, and that nothing else changed. */
    private static void call(String what, Object due, int why, Function<AsideStore, Object> call) {
        tell(what, due, why, LEFT, call);
    }

    /** fault: what fault() says of a text that is read; LEFT, if the call reads none. */
    private static void tell(String what, Object due, int why, int fault, Function<AsideStore, Object> call) {
        AsideStore told = new AsideStore();
        AsideStore other = new AsideStore();
        ahead.accept(told);
        ahead.accept(other);
        String name = state + ": " + what;
        Check.due(name, due, () -> call.apply(told));
        Check.due(name + ", why", why == LEFT ? other.why() : why, () -> told.why());
        Check.due(name + ", fault", fault == LEFT ? other.fault() : fault, () -> told.fault());
        if (fault != LEFT) {
            other.end(0);
        }
        Check.due(name + " changes nothing", Picture.of(other), () -> Picture.of(told));
        Check.due(name + " changes nothing hidden", Picture.ofWhatIsHidden(other), () -> Picture.ofWhatIsHidden(told));
    }

    private static void text(String text, int fault, int why) {
        tell("'" + text + "'", Check.ARGUMENT, why, fault, x -> {
            x.end(0);
            return Check.told(x, text);
        });
    }

    private static void inAnObjectThatIsNew() {
        state = "new";
        ahead = x -> { };
        wrongNumbers();
        for (int key : new int[] {0, 63}) {
            call("drop without a VALUE", Check.STATE, 2, x -> x.drop(key));
        }
        call("pick of none told", Check.STATE, 4, x -> x.pick(-1));
        call("pick of the OPEN one", Check.STATE, 4, x -> x.pick(0));
        call("pick of a FREE one", Check.STATE, 4, x -> x.pick(11));
        call("step", Check.STATE, 5, x -> x.step(1));
        call("step", Check.STATE, 5, x -> x.step(20));
        call("quit", Check.STATE, 5, x -> x.quit());
        call("undo", Check.STATE, LEFT, x -> x.undo());
        call("back without an IMAGE", false, LEFT, x -> x.back());
        call("run", Check.INDEX, LEFT, x -> x.run(0, 5));
        call("entry", Check.INDEX, LEFT, x -> x.entry(0, 0));
        call("overlap", Check.INDEX, LEFT, x -> x.overlap(0, 0));
        call("end of more", false, LEFT, x -> x.end(1));
        call("end below 0", false, LEFT, x -> x.end(-1));
        text("quit", 0, 5);
        text("sync;drop 3", 5, 2);
        text("sync;pick", 5, 4);
        text("sync;x", 5, LEFT);
        text("put 1 1 1;put 1 1", 17, LEFT);
        text("put 1 1 1;flush;sync;drop 1;drop 1", 28, 2);
    }

    /** RUNS, a TABLE, an IMAGE, ACTS that are remembered, bytes on the TAPE, a fault and a WHY. */
    private static void inAnObjectOfAllKinds() {
        state = "of all kinds";
        ahead = x -> {
            x.store(50, 8, 3, 3);
            x.put(1, 10, 5);
            x.put(2, 20, 7);
            x.flush();
            x.image();
            x.put(3, 5, 9);
            x.put(1, 30, 100);
            x.flush();
            x.put(63, 40, 1);
            x.drop(3);
            x.sync();
            x.put(0, 9, 9);
            x.end(0);
            Check.answerOf(() -> Check.told(x, "sync;sinc"));
            Check.answerOf(() -> x.step(3));
            Check.feed(x, "put 7 7 7; flush");
        };
        wrongNumbers();
        wrongRuns(2);
        call("drop of a KEY without ENTRIES", Check.STATE, 2, x -> x.drop(40));
        call("drop of one that is DROPPED", Check.STATE, 2, x -> x.drop(3));
        call("pick of the OPEN one", Check.STATE, 4, x -> x.pick(x.count(11)));
        call("pick of a FREE one", Check.STATE, 4, x -> x.pick(11));
        call("step", Check.STATE, 5, x -> x.step(1));
        call("quit", Check.STATE, 5, x -> x.quit());
        call("end of one more than there are", false, LEFT, x -> x.end(17));
        call("end of as many as there are", true, LEFT, x -> x.end(16));
        call("end below 0", false, LEFT, x -> x.end(-1));
        call("count", -1, LEFT, x -> x.count(28));
        text("store 200 0 2 1;put 9 9 9;merge;crash;drop 9", 38, 2);
        text("store 200 0 2 1;put 9 9 9;flush;crash;drop 9;flush;drop 9", 51, 2);
        text("merge;pick 0;pick 1", 13, 3);
        text("merge;pick 11", 6, 4);
        text("sync;quit", 5, 5);
        text("store 50 0 2 1;sync;", 20, LEFT);
        text("crash;flush;merge;put 64 1 1", 22, LEFT);
        text("sync;".repeat(14) + "sync", 70, LEFT);
        text("x", 0, LEFT);
        asking();
    }

    private static void asking() {
        call("asking all", true, LEFT, x -> Picture.of(x).equals(Picture.of(x)));
    }

    /** Twelve SEGMENTS of 50 with 44 bytes each, and a TABLE that is full. */
    private static void inAFullOne() {
        state = "full";
        ahead = x -> {
            x.store(50, 0, 4, 4);
            for (int key = 0; key < 12; key++) {
                x.put(key, 40, key);
            }
            x.image();
            x.sync();
        };
        call("put of a KEY that would bring a FLUSH", Check.STATE, 1, x -> x.put(12, 3, 0));
        call("put of a KEY of the TABLE", Check.STATE, 1, x -> x.put(11, 3, 0));
        call("put of a KEY of the TABLE, LENGTH 40", Check.STATE, 1, x -> x.put(11, 40, 0));
        call("put: no such KEY first", Check.INDEX, LEFT, x -> x.put(64, 41, 0));
        call("put: no such LENGTH first", Check.ARGUMENT, LEFT, x -> x.put(12, 41, 0));
        call("put: no such SEED first", Check.ARGUMENT, LEFT, x -> x.put(12, 40, 256));
        text("sync;flush;put 12 3 0", 11, 1);
        text("put 12 2 0;drop 0", 11, 1);
        asking();
        Consumer<AsideStore> full = ahead;
        state = "full to the last byte";
        ahead = x -> {
            full.accept(x);
            x.put(11, 2, 0);
        };
        call("put of LENGTH 1", Check.STATE, 1, x -> x.put(11, 1, 0));
        call("drop of a VALUE", Check.STATE, 1, x -> x.drop(0));
        call("drop: 1 ahead of 2", Check.STATE, 1, x -> x.drop(40));
        call("drop: no such KEY first", Check.INDEX, LEFT, x -> x.drop(64));
        text("sync;drop 40", 5, 1);
    }

    private static void withOneOn() {
        state = "one is on";
        ahead = x -> {
            x.store(50, 8, 3, 2);
            x.put(1, 9, 5);
            x.put(2, 12, 7);
            x.put(3, 11, 9);
            x.image();
            x.put(4, 40, 100);
            x.pick(0);
            x.step(1);
        };
        wrongNumbers();
        call("pick of none told", Check.STATE, 3, x -> x.pick(-1));
        call("pick of the same", Check.STATE, 3, x -> x.pick(0));
        call("pick of another SEALED one", Check.STATE, 3, x -> x.pick(1));
        call("pick of the OPEN one: 3 ahead of 4", Check.STATE, 3, x -> x.pick(2));
        call("pick of a FREE one: 3 ahead of 4", Check.STATE, 3, x -> x.pick(11));
        call("pick: no such SEGMENT first", Check.INDEX, LEFT, x -> x.pick(12));
        text("step 1;pick", 7, 3);
        text("step 2;step 1", 7, 5);
        text("quit;pick 0;step 20;quit", 20, 5);
        asking();
    }

    /** 0 has the KEYS 0, 1 and 2 (14, 14 and 16 bytes); 0 is DROPPED since; 11 has 2 bytes left. */
    private static void withOneOnThatHasNoRoom() {
        state = "no room for STEPS";
        ahead = x -> {
            x.store(50, 0, 2, 2);
            x.put(0, 10, 0);
            x.put(1, 10, 1);
            x.put(2, 12, 2);
            for (int key = 3; key < 14; key++) {
                x.put(key, 40, key);
            }
            x.pick(0);
            x.drop(0);
        };
        call("two STEPS: the second has no room", Check.STATE, 1, x -> x.step(2));
        call("twenty STEPS", Check.STATE, 1, x -> x.step(20));
        call("step: no such number first", Check.ARGUMENT, LEFT, x -> x.step(21));
        text("step 1;step 1", 7, 1);
        asking();
    }

    private static void withoutRememberedActs() {
        state = "none are remembered";
        ahead = x -> {
            x.put(1, 20, 1);
            x.image();
            Check.told(x, "put 2 20 2;flush");
            Check.answerOf(() -> x.pick(3));
            Check.feed(x, "sync; flush");
        };
        call("undo", Check.STATE, LEFT, x -> x.undo());
        state = "a TAPE of 381";
        ahead = x -> {
            Check.feed(x, "put 1 2 3;sync" + " ".repeat(367));
            x.put(4, 5, 6);
        };
        call("feed", -1, LEFT, x -> x.feed(0x20202020, 0, 0, 0, 0));
        call("end of more", false, LEFT, x -> x.end(382));
    }

    /** Numbers that are none in any state, the call's other faults behind them. */
    private static void wrongNumbers() {
        for (int key : new int[] {-1, 64, Integer.MIN_VALUE, Integer.MAX_VALUE}) {
            call("put " + key, Check.INDEX, LEFT, x -> x.put(key, 0, -1));
            call("drop " + key, Check.INDEX, LEFT, x -> x.drop(key));
            call("key " + key, Check.INDEX, LEFT, x -> x.key(key, 10));
            call("octet " + key, Check.INDEX, LEFT, x -> x.octet(key, -1));
            call("from " + key, Check.INDEX, LEFT, x -> x.from(key, -1));
            call("below " + key, Check.INDEX, LEFT, x -> x.below(key));
            call("rank " + key, Check.INDEX, LEFT, x -> x.rank(key, false));
            call("twin " + key, Check.INDEX, LEFT, x -> x.rank(key, true));
            call("traces " + key, Check.INDEX, LEFT, x -> x.traces(key, 3));
        }
        for (int segment : new int[] {-1, 12, Integer.MIN_VALUE, Integer.MAX_VALUE}) {
            call("segment " + segment, Check.INDEX, LEFT, x -> x.segment(segment, 7));
            call("record " + segment, Check.INDEX, LEFT, x -> x.record(segment, -1, 5));
            call("would " + segment, Check.INDEX, LEFT, x -> x.would(segment, 3));
        }
        for (int segment : new int[] {-2, 12, Integer.MIN_VALUE, Integer.MAX_VALUE}) {
            call("pick " + segment, Check.INDEX, LEFT, x -> x.pick(segment));
        }
        wrongTerms();
        for (int n : new int[] {0, 21, -1, Integer.MIN_VALUE, Integer.MAX_VALUE}) {
            call("step " + n, Check.ARGUMENT, LEFT, x -> x.step(n));
        }
        for (int n : new int[] {0, 7, -1, Integer.MIN_VALUE, Integer.MAX_VALUE}) {
            call("sweep " + n, Check.ARGUMENT, LEFT, x -> x.sweep(n, 3));
        }
        for (int length : new int[] {0, 41, -1, Integer.MIN_VALUE, Integer.MAX_VALUE}) {
            call("holds " + length, Check.ARGUMENT, LEFT, x -> x.holds(length));
            call("put of LENGTH " + length, Check.ARGUMENT, LEFT, x -> x.put(0, length, 0));
        }
        for (int seed : new int[] {-1, 256, Integer.MIN_VALUE, Integer.MAX_VALUE}) {
            call("put of SEED " + seed, Check.ARGUMENT, LEFT, x -> x.put(63, 1, seed));
        }
        wrongWhats();
    }

    private static void wrongTerms() {
        int[][] bounds = {{50, 200}, {0, 40}, {2, 16}, {1, 4}};
        for (int i = 0; i < 4; i++) {
            for (int wrong : new int[] {bounds[i][0] - 1, bounds[i][1] + 1, Integer.MIN_VALUE, Integer.MAX_VALUE}) {
                int[] terms = {50, 0, 2, 1};
                terms[i] = wrong;
                call("store, TERM " + i + " is " + wrong, Check.ARGUMENT, LEFT,
                    x -> x.store(terms[0], terms[1], terms[2], terms[3]));
            }
        }
    }

    private static void wrongWhats() {
        for (int away : new int[] {-1, 0, Integer.MIN_VALUE, Integer.MAX_VALUE}) {
            call("key, what " + away, Check.ELEMENT, LEFT, x -> x.key(63, away == 0 ? 10 : away));
            call("segment, what " + away, Check.ELEMENT, LEFT, x -> x.segment(11, away == 0 ? 7 : away));
            call("record, what " + away, Check.ELEMENT, LEFT, x -> x.record(0, 0, away == 0 ? 5 : away));
            call("record that is none, what " + away, Check.ELEMENT, LEFT, x -> x.record(11, -1, away == 0 ? 5 : away));
            call("would, what " + away, Check.ELEMENT, LEFT, x -> x.would(0, away == 0 ? 3 : away));
            call("sweep, what " + away, Check.ELEMENT, LEFT, x -> x.sweep(6, away == 0 ? 3 : away));
            call("traces, what " + away, Check.ELEMENT, LEFT, x -> x.traces(0, away == 0 ? 3 : away));
            call("log, what " + away, Check.ELEMENT, LEFT, x -> x.log(0, away == 0 ? 3 : away));
            call("log of no row, what " + away, Check.ELEMENT, LEFT, x -> x.log(-1, away == 0 ? 3 : away));
            call("count, what " + away, -1, LEFT, x -> x.count(away == 0 ? 28 : away));
        }
    }

    private static void wrongRuns(int runs) {
        for (int run : new int[] {-1, runs, Integer.MIN_VALUE, Integer.MAX_VALUE}) {
            call("run " + run, Check.INDEX, LEFT, x -> x.run(run, 5));
            call("entry " + run, run == -1 ? 0 : Check.INDEX, LEFT, x -> x.entry(run, 0));
            call("overlap " + run + " of itself", Check.INDEX, LEFT, x -> x.overlap(run, run));
            call("overlap " + run + " first", Check.INDEX, LEFT, x -> x.overlap(run, 0));
            call("overlap " + run + " second", Check.INDEX, LEFT, x -> x.overlap(0, run));
        }
        call("entry -2", Check.INDEX, LEFT, x -> x.entry(-2, 0));
        for (int run = 0; run < runs; run++) {
            int one = run;
            call("overlap of one", Check.ARGUMENT, LEFT, x -> x.overlap(one, one));
            call("run, what 5", Check.ELEMENT, LEFT, x -> x.run(one, 5));
            call("run, what -1", Check.ELEMENT, LEFT, x -> x.run(one, -1));
            call("run, what least", Check.ELEMENT, LEFT, x -> x.run(one, Integer.MIN_VALUE));
        }
    }
}
