/** Promises 22, 23 and 29 to 32: what is asked of SEGMENTS, and what would come of collecting them. */
public final class SegmentsTest {
    private static AsideStore x;

    public static void main(String[] args) {
        wrongArguments();
        segments();
        records();
        holding();
        traces();
        woulds();
        wouldsWithoutRoom();
        sweeps();
        sweepsThatEnd();
        Check.end();
    }

    private static void due(String what, Object due, Check.Call call) {
        Check.due(what, due, call);
    }

    private static void wrongArguments() {
        x = new AsideStore();
        for (int wrong : new int[] {-1, 12, Integer.MIN_VALUE, Integer.MAX_VALUE}) {
            due("segment", Check.INDEX, () -> x.segment(wrong, 99));
            due("record", Check.INDEX, () -> x.record(wrong, 0, 99));
            due("would", Check.INDEX, () -> x.would(wrong, 99));
        }
        for (int wrong : new int[] {-1, 64, Integer.MAX_VALUE}) {
            due("traces", Check.INDEX, () -> x.traces(wrong, 99));
        }
        for (int wrong : new int[] {-1, 7, Integer.MAX_VALUE}) {
            due("segment", Check.ELEMENT, () -> x.segment(0, wrong));
        }
        for (int wrong : new int[] {-1, 5, Integer.MIN_VALUE}) {
            due("record", Check.ELEMENT, () -> x.record(0, 0, wrong));
        }
        for (int wrong : new int[] {-1, 3, Integer.MAX_VALUE}) {
            due("would", Check.ELEMENT, () -> x.would(0, wrong));
            due("traces", Check.ELEMENT, () -> x.traces(0, wrong));
            due("sweep", Check.ELEMENT, () -> x.sweep(1, wrong));
        }
        for (int wrong : new int[] {0, 7, -1, Integer.MAX_VALUE}) {
            due("sweep", Check.ARGUMENT, () -> x.sweep(wrong, 99));
        }
        for (int wrong : new int[] {0, 41, -1, Integer.MAX_VALUE}) {
            due("holds", Check.ARGUMENT, () -> x.holds(wrong));
        }
    }

    private static void of(int segment, int... answers) {
        for (int i = 0; i < answers.length; i++) {
            int what = i;
            due("segment " + segment + " what " + what, answers[i], () -> x.segment(segment, what));
        }
    }

    private static void segments() {
        x = new AsideStore();
        of(0, 1, 0, 0, 0, 0, -1, 0);
        of(11, 0, 0, 0, 0, 0, -1, 0);
        x.store(50, 8, 16, 4);
        x.put(1, 20, 1);
        x.put(2, 8, 2);
        x.put(1, 10, 3);
        of(0, 1, 3, 50, 14, 36, 3, 0);
        due("bytes fit exactly", 0, () -> x.count(11));
        x.put(3, 9, 4);
        of(0, 2, 3, 50, 14, 36, 3, 22);
        of(1, 1, 1, 13, 13, 0, 4, 0);
        x.drop(1);
        of(0, 2, 3, 50, 0, 50, 3, 50);
        of(1, 1, 2, 17, 13, 4, 5, 0);
        due("LIVE of all", 13, () -> x.count(12));
        due("DEAD of all", 54, () -> x.count(13));
        due("SPARE", 33 + 500, () -> x.count(22));
        x.flush();
        of(1, 1, 2, 17, 13, 4, 5, 0);
    }

    private static void recordOf(int segment, int k, int... answers) {
        for (int i = 0; i < answers.length; i++) {
            int what = i;
            due("record " + segment + " " + k + " what " + what, answers[i], () -> x.record(segment, k, what));
        }
    }

    private static void records() {
        x = new AsideStore();
        x.store(50, 8, 16, 4);
        x.put(1, 20, 1);
        x.put(2, 8, 2);
        x.put(1, 10, 3);
        x.drop(2);
        x.put(3, 40, 4);
        recordOf(0, 0, 1, 20, 1, 0, 0);
        recordOf(0, 1, 2, 8, 2, 24, 0);
        recordOf(0, 2, 1, 10, 3, 36, 1);
        recordOf(1, 0, 2, -1, 4, 0, 0);
        recordOf(1, 1, 3, 40, 5, 4, 1);
        recordOf(1, 2, -1, -1, -1, -1, -1);
        recordOf(2, 0, -1, -1, -1, -1, -1);
        recordOf(0, 3, -1, -1, -1, -1, -1);
        recordOf(0, -1, -1, -1, -1, -1, -1);
        recordOf(0, Integer.MAX_VALUE, -1, -1, -1, -1, -1);
        recordOf(0, Integer.MIN_VALUE, -1, -1, -1, -1, -1);
        // a RECORD of one SEGMENT is not one of the next
        recordOf(0, 50, -1, -1, -1, -1, -1);
    }

    private static void holding() {
        x = new AsideStore();
        due("two in each", 24, () -> x.holds(40));
        due("99 at most", 99, () -> x.holds(1));
        due("nine in each", 99, () -> x.holds(7));
        due("seven in each", 84, () -> x.holds(10));
        x.put(1, 40, 1);
        due("one fewer", 23, () -> x.holds(40));
        x.put(1, 20, 1);
        due("two fewer", 22, () -> x.holds(40));
        due("the 32 that are left hold two", 2 + 77, () -> x.holds(10));
        x.store(50, 40, 2, 1);
        for (int i = 0; i < 11; i++) {
            x.put(0, 40, 1);
        }
        due("one more", 1, () -> x.holds(40));
        x.put(0, 40, 1);
        due("none", 0, () -> x.holds(40));
        due("2 fit", 1, () -> x.holds(2));
        due("asking changes nothing", 12, () -> x.count(7));
    }

    private static void traces() {
        x = new AsideStore();
        x.store(50, 8, 16, 4);
        x.put(1, 20, 1);
        x.put(1, 8, 2);
        x.put(2, 30, 3);
        x.put(3, 30, 3);
        x.drop(1);
        due("how many", 3, () -> x.traces(1, 0));
        due("SIZES", 24 + 12 + 4, () -> x.traces(1, 1));
        due("bits", 1 | 4, () -> x.traces(1, 2));
        due("bits", 2, () -> x.traces(2, 2));
        due("none", 0, () -> x.traces(63, 0));
        due("none", 0, () -> x.traces(63, 1));
        due("none", 0, () -> x.traces(63, 2));
    }

    private static void would(int segment, int... answers) {
        for (int i = 0; i < 3; i++) {
            int what = i;
            due("would " + segment + " " + what, answers[i], () -> x.would(segment, what));
        }
    }

    private static void woulds() {
        x = new AsideStore();
        would(0, -1000, -1000, -1000);
        x.store(50, 8, 2, 2);
        x.put(1, 10, 5);
        x.put(2, 20, 7);
        x.put(3, 5, 9);
        x.put(1, 30, 100);
        // 2 is written back: FLUSH of 3 and 1, then of 2, then a MERGE of three
        would(0, 1, 10, 6);
        would(1, -1000, -1000, -1000);
        would(5, -1000, -1000, -1000);
        due("nothing is on", -1, () -> x.count(14));
        due("nothing is written", 0, () -> x.count(16));
        x.pick(0);
        would(0, -1000, -1000, -1000);
        x.quit();
        x.drop(2);
        // none are LIVE now: the FLUSH ahead of the DROP was one, so that of the STEP is the third RUN
        would(0, 0, 50, 1 + 2);
        x.store(50, 0, 16, 4);
        x.put(1, 20, 1);
        x.put(2, 20, 1);
        x.put(3, 20, 1);
        // 24 go into the 26 of 1, 24 into 2: with the 2 that are lost as much goes as comes
        would(0, 2, 0, 3);
        x.store(50, 0, 16, 4);
        x.put(1, 40, 1);
        x.put(2, 10, 1);
        // 36 are left in 1, so 44 go to 2: the 36 are lost as well
        would(0, 1, 50 - 44 - 36, 2);
    }

    private static void fillUp() {
        x = new AsideStore();
        x.store(50, 0, 16, 4);
        for (int key = 0; key < 12; key++) {
            x.put(key, 40, key);
        }
    }

    private static void wouldsWithoutRoom() {
        fillUp();
        would(3, -1000, -1000, -1000);
        x.drop(3);
        would(3, 0, 50, 12);
        would(4, -1000, -1000, -1000);
    }

    private static void sweep(int n, int... answers) {
        for (int i = 0; i < 3; i++) {
            int what = i;
            due("sweep " + n + " " + what, answers[i], () -> x.sweep(n, what));
        }
    }

    private static void sweeps() {
        x = new AsideStore();
        sweep(1, 0, 1200, 0);
        sweep(6, 0, 1200, 0);
        x.store(50, 8, 2, 2);
        x.put(1, 10, 5);
        x.put(2, 20, 7);
        x.put(3, 5, 9);
        x.put(1, 30, 100);
        sweep(1, 1, 526, 100 * 58 / (526 + 58));
        x.pick(0);
        sweep(1, 1, 526, 9);
        due("it is on still", 0, () -> x.count(14));
        due("with all NOTED", 1, () -> x.count(15));
        x.quit();
        // the second collects 1: its 34 go to 0, as 26 are left in 2, which is lost
        sweep(2, 2, 26 - 26 + 16 + 500, 100 * 58 / (516 + 58));
    }

    private static void sweepsThatEnd() {
        fillUp();
        sweep(3, 0, 6, 100 * 12 * 44 / (6 + 12 * 44));
        x.drop(3);
        // 3 goes (50 come), then 0: its 44 go to 3, as 2 are left in 11
        sweep(1, 1, 52, 100 * 11 * 44 / (52 + 11 * 44 + 4));
        x = new AsideStore();
        x.store(50, 0, 16, 4);
        x.put(0, 20, 0);
        x.put(1, 20, 1);
        for (int key = 2; key < 12; key++) {
            x.put(key, 40, key);
        }
        x.put(12, 20, 12);
        // the poorest has 44: 1; 26 are left, so nothing is written
        sweep(1, 0, 26, 100 * (48 + 440 + 24) / (26 + 512));
        x.store(50, 0, 16, 4);
        x.put(0, 15, 0);
        x.put(1, 20, 1);
        for (int key = 2; key < 12; key++) {
            x.put(key, 40, key);
        }
        x.put(12, 20, 12);
        // 0 has 43: 19 are written into the 26, then 24 do not fit
        sweep(1, 0, 7, 100 * (43 + 440 + 24) / (7 + 43 + 440 + 24 + 19));
        due("nothing is written", 0, () -> x.count(16));
        due("nor is it on", -1, () -> x.count(14));
    }
}
