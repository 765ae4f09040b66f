import java.util.Random;

/** Long runs of calls, the same on AsideStore and on the Model; every question is asked of both behind each ACT. */
public final class ModelTest {
    private static final int RUNS = 120;
    private static final int CALLS = 200;

    private final Random random;
    private final int run;
    private final AsideStore store = new AsideStore();
    private final Model model = new Model();
    private final int span;
    private final int shortest;
    private final int longest;
    /** Every third run fills the SEGMENTS up, so that room is what is short. */
    private final boolean tight;
    private String latest = "";

    private ModelTest(int run) {
        this.run = run;
        random = new Random(run * 7919L + 1);
        tight = run % 3 == 0;
        span = tight ? 64 : 1 << 1 + random.nextInt(6);
        longest = tight ? 40 : 5 + random.nextInt(36);
        shortest = tight ? random.nextInt(30) : 0;
    }

    public static void main(String[] args) {
        for (int run = 0; run < RUNS && Check.wrongSoFar() == 0; run++) {
            new ModelTest(run).goThrough();
        }
        Check.end();
    }

    private void goThrough() {
        if (random.nextInt(4) != 0) {
            int room = random.nextBoolean() ? 50 + random.nextInt(20) : 50 + random.nextInt(151);
            int brief = random.nextInt(41) * random.nextInt(2);
            int most = 2 + random.nextInt(15);
            int runs = 1 + random.nextInt(4);
            both("store " + room + " " + brief + " " + most + " " + runs, () -> store.store(room, brief, most, runs),
                () -> model.store(room, brief, most, runs));
        }
        for (int i = 0; i < CALLS && Check.wrongSoFar() == 0; i++) {
            act();
            askAll(i % 8 == 7);
        }
    }

    private void both(String what, Check.Call one, Check.Call other) {
        latest = latest.length() > 600 ? latest.substring(latest.length() - 600) + " | " + what : latest + " | " + what;
        same(what, one, other);
    }

    private void same(String what, Check.Call one, Check.Call other) {
        String due = Check.answerOf(other);
        Check.due("run " + run + " ..." + latest + " -> " + what, due, one);
    }

    private int key() {
        return random.nextInt(60) == 0 ? random.nextInt(70) - 3 : random.nextInt(span);
    }

    private void act() {
        switch (random.nextInt(tight ? 50 : 26)) {
            case 0:
                both("sync", store::sync, () -> model.act("sync"));
                break;
            case 1:
                both("flush", store::flush, () -> model.act("flush"));
                break;
            case 2:
                both("merge", store::merge, () -> model.act("merge"));
                break;
            case 3:
                if (!tight || random.nextInt(4) == 0) {
                    both("crash", store::crash, () -> model.act("crash"));
                }
                break;
            case 4:
            case 5:
                both("pick none", () -> store.pick(-1), () -> model.pick(-1));
                break;
            case 6:
                int s = random.nextInt(14) - 1;
                both("pick " + s, () -> store.pick(s), () -> model.pick(s));
                break;
            case 7:
            case 8:
            case 9:
                int n = random.nextInt(8) == 0 ? random.nextInt(23) : 1 + random.nextInt(4);
                both("step " + n, () -> store.step(n), () -> model.step(n));
                break;
            case 10:
                both("quit", store::quit, () -> model.act("quit"));
                break;
            case 11:
                both("undo", store::undo, model::undo);
                break;
            case 12:
            case 13:
            case 14:
                int d = key();
                both("drop " + d, () -> store.drop(d), () -> model.drop(d));
                break;
            case 15:
                seldom();
                break;
            case 16:
                text();
                break;
            default:
                int k = key();
                int length = random.nextInt(40) == 0 ? random.nextInt(44) - 1 : shortest + 1 + random.nextInt(longest - shortest);
                int seed = random.nextInt(40) == 0 ? random.nextInt(260) - 2 : random.nextInt(4) * 85;
                both("put " + k + " " + length + " " + seed, () -> store.put(k, length, seed),
                    () -> model.put(k, length, seed));
        }
    }

    private void seldom() {
        switch (random.nextInt(5)) {
            case 0:
                store.image();
                model.image();
                latest += " | image";
                break;
            case 1:
                both("back", store::back, model::back);
                break;
            case 2:
                int n = random.nextInt(450) - 5;
                both("end " + n, () -> store.end(n), () -> model.end(n));
                break;
            case 3:
                int a = random.nextInt();
                both("feed", () -> store.feed(a, a * 3, a * 5, a * 7, a * 9), () -> model.feed(a, a * 3, a * 5, a * 7, a * 9));
                break;
            default:
                both("acts of what is there", store::acts, model::acts);
        }
    }

    private String blanks() {
        return " ".repeat(Math.max(0, random.nextInt(4) - 1));
    }

    private String number(int least, int greatest) {
        int n = random.nextInt(80) == 0 ? least + random.nextInt(2 * greatest + 2) - 1 : least + random.nextInt(greatest - least + 1);
        String text = String.valueOf(Math.abs(n));
        return " " + blanks() + (random.nextInt(30) == 0 ? "0" + text : text);
    }

    private String oneAct() {
        switch (random.nextInt(20)) {
            case 0:
                return random.nextInt(4) == 0 ? "store" + number(50, 200) + number(0, 40) + number(2, 16) + number(1, 4) : "sync";
            case 1:
                return "sync";
            case 2:
                return "flush";
            case 3:
                return "merge";
            case 4:
                return "crash";
            case 5:
                return "pick" + (random.nextBoolean() ? "" : number(0, 11));
            case 6:
                return "step" + number(1, 20);
            case 7:
                return random.nextBoolean() ? "quit" : "pick;step 20";
            case 8:
            case 9:
                return "drop" + number(0, span - 1);
            default:
                return "put" + number(0, span - 1) + number(1, longest) + number(0, 255);
        }
    }

    private void text() {
        StringBuilder text = new StringBuilder(blanks());
        int n = random.nextInt(10) == 0 ? random.nextInt(17) : random.nextInt(5);
        for (int i = 0; i < n; i++) {
            text.append(i == 0 ? "" : ";").append(blanks()).append(oneAct()).append(blanks());
        }
        if (random.nextInt(8) == 0) {
            text.append("sync;".repeat(12 + random.nextInt(3))).append(oneAct());
        }
        if (random.nextInt(3) == 0 && text.length() > 0) {
            int at = random.nextInt(text.length());
            String odd = "a; 9x0z" + (char) 0 + (char) 200 + "[";
            text.setCharAt(at, odd.charAt(random.nextInt(odd.length())));
        }
        if (text.length() > 400) {
            text.setLength(400);
        }
        latest += " | text '" + text + "'";
        while (store.end(1)) {
            store.end(0);
            model.end(0);
        }
        Check.feed(store, text.toString());
        model.tape = new StringBuilder(text.toString());
        both("acts", store::acts, model::acts);
    }

    private void askAll(boolean widely) {
        same("fault", store::fault, () -> model.fault);
        same("why", store::why, () -> model.why);
        for (int what = -2; what < 30; what++) {
            int w = what;
            same("count " + w, () -> store.count(w), () -> model.count(w));
        }
        int key = key();
        askKey(key);
        for (int what = -1; what < 4; what++) {
            int w = what;
            int n = random.nextInt(8);
            int s = random.nextInt(13);
            same("sweep " + n + " " + w, () -> store.sweep(n, w), () -> model.sweep(n, w));
            same("would " + s + " " + w, () -> store.would(s, w), () -> model.would(s, w));
        }
        int length = random.nextInt(42);
        same("holds " + length, () -> store.holds(length), () -> model.holds(length));
        if (widely) {
            askWidely();
        }
    }

    private void askKey(int key) {
        for (int what = -1; what < 11; what++) {
            int w = what;
            same("key " + key + " " + w, () -> store.key(key, w), () -> model.key(key, w));
            same("traces " + key + " " + w, () -> store.traces(key, w), () -> model.traces(key, w));
        }
        for (int i = -1; i < 42; i += 1 + random.nextInt(9)) {
            int at = i;
            same("octet " + key + " " + at, () -> store.octet(key, at), () -> model.octet(key, at));
            same("from " + key + " " + at, () -> store.from(key, at), () -> model.from(key, at));
        }
        same("below " + key, () -> store.below(key), () -> model.below(key));
        same("rank " + key, () -> store.rank(key, false), () -> model.rank(key, false));
        same("twin " + key, () -> store.rank(key, true), () -> model.rank(key, true));
    }

    private void askWidely() {
        for (int key = -1; key < 65; key++) {
            askKey(key);
        }
        for (int segment = -1; segment < 13; segment++) {
            int s = segment;
            for (int what = -1; what < 8; what++) {
                int w = what;
                same("segment " + s + " " + w, () -> store.segment(s, w), () -> model.segment(s, w));
                same("would " + s + " " + w, () -> store.would(s, w), () -> model.would(s, w));
                for (int i = -1; i < 22; i++) {
                    int k = i;
                    same("record " + s + " " + k + " " + w, () -> store.record(s, k, w), () -> model.record(s, k, w));
                }
            }
        }
        askRuns();
        for (int i = -1; i < 66; i++) {
            int k = i;
            same("old " + k, () -> store.old(k), () -> model.old(k));
            for (int what = -1; what < 4; what++) {
                int w = what;
                same("log " + k + " " + w, () -> store.log(k, w), () -> model.log(k, w));
                if (i < 8) {
                    same("sweep " + k + " " + w, () -> store.sweep(k, w), () -> model.sweep(k, w));
                }
            }
        }
    }

    private void askRuns() {
        for (int run = -2; run < 6; run++) {
            int r = run;
            for (int what = -1; what < 6; what++) {
                int w = what;
                same("run " + r + " " + w, () -> store.run(r, w), () -> model.run(r, w));
                same("overlap " + r + " " + w, () -> store.overlap(r, w), () -> model.overlap(r, w));
            }
            for (int i = -1; i < 65; i++) {
                int k = i;
                same("entry " + r + " " + k, () -> store.entry(r, k), () -> model.entry(r, k));
            }
        }
    }
}
