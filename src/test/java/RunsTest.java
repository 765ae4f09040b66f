/** Promises 24 to 26: what is asked of RUNS and the TABLE. */
public final class RunsTest {
    private static AsideStore x;

    public static void main(String[] args) {
        wrongArguments();
        runs();
        entries();
        overlaps();
        Check.end();
    }

    private static void due(String what, Object due, Check.Call call) {
        Check.due(what, due, call);
    }

    /** The latest RUN: 2 (DROPPED), 4, 63; the next: 1, 2, 3, 9; the eldest: 3, 9, 50; the TABLE: 9, 11. */
    private static void threeRuns() {
        x = new AsideStore();
        x.store(200, 8, 16, 4);
        x.put(50, 20, 1);
        x.put(9, 20, 1);
        x.put(3, 20, 1);
        x.flush();
        x.put(2, 2, 2);
        x.put(9, 9, 9);
        x.put(3, 3, 3);
        x.put(1, 1, 1);
        x.flush();
        x.put(63, 6, 6);
        x.put(4, 4, 4);
        x.drop(2);
        x.flush();
        x.put(11, 1, 1);
        x.put(9, 1, 1);
    }

    private static void wrongArguments() {
        x = new AsideStore();
        due("run", Check.INDEX, () -> x.run(0, 0));
        due("run", Check.INDEX, () -> x.run(0, 99));
        due("entry", Check.INDEX, () -> x.entry(0, 0));
        due("overlap", Check.INDEX, () -> x.overlap(0, 0));
        threeRuns();
        for (int wrong : new int[] {-2, 3, 4, Integer.MIN_VALUE, Integer.MAX_VALUE}) {
            due("run", Check.INDEX, () -> x.run(wrong, 0));
            due("entry", Check.INDEX, () -> x.entry(wrong, 0));
            due("overlap", Check.INDEX, () -> x.overlap(wrong, 0));
            due("overlap", Check.INDEX, () -> x.overlap(0, wrong));
            due("overlap", Check.INDEX, () -> x.overlap(wrong, wrong));
        }
        due("the TABLE is no RUN", Check.INDEX, () -> x.run(-1, 0));
        due("the TABLE is no RUN", Check.INDEX, () -> x.overlap(-1, 0));
        due("the TABLE is no RUN", Check.INDEX, () -> x.overlap(0, -1));
        for (int wrong : new int[] {-1, 5, Integer.MIN_VALUE}) {
            due("run what", Check.ELEMENT, () -> x.run(0, wrong));
        }
        due("both are one", Check.ARGUMENT, () -> x.overlap(2, 2));
    }

    private static void of(int run, int... answers) {
        for (int i = 0; i < answers.length; i++) {
            int what = i;
            due("run " + run + " what " + what, answers[i], () -> x.run(run, what));
        }
    }

    private static void runs() {
        threeRuns();
        of(0, 3, 2, 63, 1, 3);
        of(1, 4, 1, 9, 0, 2);
        of(2, 3, 3, 50, 0, 1);
        x.flush();
        of(0, 2, 9, 11, 0, 2);
        of(3, 3, 3, 50, 0, 1);
        x.put(5, 1, 1);
        x.flush();
        due("one is left", 1, () -> x.count(4));
        of(0, 8, 1, 63, 0, 8);
    }

    private static void keys(int run, int... keys) {
        for (int i = 0; i < keys.length; i++) {
            int k = i;
            due("entry " + run + " " + k, keys[i], () -> x.entry(run, k));
        }
        due("no more", -1, () -> x.entry(run, keys.length));
        due("none ahead", -1, () -> x.entry(run, -1));
        due("none ahead", -1, () -> x.entry(run, Integer.MIN_VALUE));
        due("none behind", -1, () -> x.entry(run, Integer.MAX_VALUE));
    }

    private static void entries() {
        x = new AsideStore();
        keys(-1);
        threeRuns();
        keys(-1, 9, 11);
        keys(0, 2, 4, 63);
        keys(1, 1, 2, 3, 9);
        keys(2, 3, 9, 50);
    }

    private static void overlaps() {
        threeRuns();
        due("2", 1, () -> x.overlap(0, 1));
        due("2", 1, () -> x.overlap(1, 0));
        due("none", 0, () -> x.overlap(0, 2));
        due("3 and 9", 2, () -> x.overlap(1, 2));
        due("3 and 9", 2, () -> x.overlap(2, 1));
    }
}
