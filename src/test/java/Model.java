import java.util.ArrayDeque;
import java.util.ArrayList;
import java.util.Comparator;
import java.util.Deque;
import java.util.List;
import java.util.Map;
import java.util.NoSuchElementException;
import java.util.TreeMap;
import java.util.regex.Matcher;
import java.util.regex.Pattern;

/** The document written down a second time, as plainly as objects, lists and maps allow, to be held against AsideStore. */
final class Model {
    static final int NONE = -1;

    record Rec(int key, int length, int seed, int number, int begin) {
        int size() {
            return 4 + Math.max(length, 0);
        }

        boolean isDrop() {
            return length == NONE;
        }
    }

    /** kind: 1 DROPPED, 2 SHORT, 3 LONG. */
    record Ent(int number, int kind, int length, int seed, int segment, int begin) {
    }

    record Row(int what, int number, int latest) {
    }

    static final class Refused extends RuntimeException {
        private static final long serialVersionUID = 1;
        final int by;

        Refused(int by) {
            this.by = by;
        }
    }

    static final class World {
        int room = 100;
        int brief = 8;
        int most = 6;
        int limit = 3;
        int number;
        int secured;
        int mark;
        int open;
        int picked = NONE;
        int backEver;
        int skippedEver;
        int written;
        int told;
        int rows;
        List<Rec> noted = new ArrayList<>();
        List<List<Rec>> segments = new ArrayList<>();
        boolean[] sealed = new boolean[12];
        TreeMap<Integer, Ent> table = new TreeMap<>();
        List<TreeMap<Integer, Ent>> runs = new ArrayList<>();
        List<Row> log = new ArrayList<>();

        World() {
            for (int i = 0; i < 12; i++) {
                segments.add(new ArrayList<>());
            }
        }

        World copy() {
            World w = new World();
            w.room = room;
            w.brief = brief;
            w.most = most;
            w.limit = limit;
            w.number = number;
            w.secured = secured;
            w.mark = mark;
            w.open = open;
            w.picked = picked;
            w.backEver = backEver;
            w.skippedEver = skippedEver;
            w.written = written;
            w.told = told;
            w.rows = rows;
            w.noted = new ArrayList<>(noted);
            for (int i = 0; i < 12; i++) {
                w.segments.set(i, new ArrayList<>(segments.get(i)));
            }
            w.sealed = sealed.clone();
            w.table = new TreeMap<>(table);
            for (TreeMap<Integer, Ent> run : runs) {
                w.runs.add(new TreeMap<>(run));
            }
            w.log = new ArrayList<>(log);
            return w;
        }

        boolean isFree(int s) {
            return s != open && !sealed[s];
        }

        int taken(int s) {
            int sum = 0;
            for (Rec r : segments.get(s)) {
                sum += r.size();
            }
            return sum;
        }

        int firstFree() {
            for (int s = 0; s < 12; s++) {
                if (isFree(s)) {
                    return s;
                }
            }
            return NONE;
        }

        boolean fits(int size) {
            return taken(open) + size <= room || firstFree() != NONE;
        }

        void row(int what, int n) {
            log.add(new Row(what, n, number));
            if (log.size() > 30) {
                log.remove(0);
            }
        }

        Ent current(int key) {
            if (table.containsKey(key)) {
                return table.get(key);
            }
            for (TreeMap<Integer, Ent> run : runs) {
                if (run.containsKey(key)) {
                    return run.get(key);
                }
            }
            return null;
        }

        /** A LONG one's VALUE is looked up in its SEGMENT, as the document has it. */
        int[] value(int key) {
            Ent e = current(key);
            if (e == null || e.kind == 1) {
                return null;
            }
            if (e.kind == 2) {
                return new int[] {e.length, e.seed};
            }
            for (Rec r : segments.get(e.segment)) {
                if (r.begin == e.begin) {
                    if (r.key != key || r.number != e.number || r.length != e.length) {
                        throw new AssertionError("a POINTER leads to another RECORD");
                    }
                    return new int[] {r.length, r.seed};
                }
            }
            throw new AssertionError("a POINTER leads nowhere");
        }

        List<Integer> keys() {
            List<Integer> list = new ArrayList<>();
            for (int k = 0; k < 64; k++) {
                if (value(k) != null) {
                    list.add(k);
                }
            }
            return list;
        }

        Ent entryOf(Rec r, int segment) {
            if (r.isDrop()) {
                return new Ent(r.number, 1, NONE, NONE, NONE, NONE);
            }
            if (r.length <= brief) {
                return new Ent(r.number, 2, r.length, r.seed, NONE, NONE);
            }
            return new Ent(r.number, 3, r.length, NONE, segment, r.begin);
        }

        void enter(int key, int length, int seed) {
            int size = 4 + Math.max(0, length);
            if (!fits(size)) {
                throw new Refused(1);
            }
            if (table.size() >= most && !table.containsKey(key)) {
                flush();
            }
            if (taken(open) + size > room) {
                row(4, open);
                int next = firstFree();
                sealed[open] = true;
                open = next;
            }
            number++;
            Rec r = new Rec(key, length, seed, number, taken(open));
            segments.get(open).add(r);
            written += size;
            table.put(key, entryOf(r, open));
        }

        int put(int key, int length, int seed) {
            enter(key, length, seed);
            told += 4 + length;
            return number;
        }

        int drop(int key) {
            if (!fits(4)) {
                throw new Refused(1);
            }
            if (value(key) == null) {
                throw new Refused(2);
            }
            enter(key, NONE, NONE);
            told += 4;
            return number;
        }

        int sync() {
            int n = 0;
            for (List<Rec> s : segments) {
                for (Rec r : s) {
                    n += r.number > secured ? 1 : 0;
                }
            }
            secured = number;
            return n;
        }

        int flush() {
            sync();
            if (!table.isEmpty()) {
                rows += table.size();
                row(0, table.size());
                runs.add(0, table);
                table = new TreeMap<>();
            }
            mark = number;
            if (runs.size() > limit) {
                merge();
            }
            return runs.size();
        }

        int merge() {
            int ahead = 0;
            TreeMap<Integer, Ent> one = new TreeMap<>();
            for (int i = runs.size() - 1; i >= 0; i--) {
                ahead += runs.get(i).size();
                one.putAll(runs.get(i));
            }
            one.values().removeIf(e -> e.kind == 1);
            if (runs.size() > 1) {
                rows += one.size();
                row(1, one.size());
            }
            runs.clear();
            if (!one.isEmpty()) {
                runs.add(one);
            }
            return ahead - one.size();
        }

        int crash() {
            int gone = 0;
            for (List<Rec> s : segments) {
                int ahead = s.size();
                s.removeIf(r -> r.number > secured);
                gone += ahead - s.size();
            }
            row(3, gone);
            int best = 0;
            open = 0;
            List<Rec> later = new ArrayList<>();
            Map<Integer, Integer> where = new TreeMap<>();
            for (int s = 0; s < 12; s++) {
                for (Rec r : segments.get(s)) {
                    if (r.number > best) {
                        best = r.number;
                        open = s;
                    }
                    if (r.number > mark) {
                        later.add(r);
                        where.put(r.number, s);
                    }
                }
            }
            for (int s = 0; s < 12; s++) {
                sealed[s] = s != open && !segments.get(s).isEmpty();
            }
            later.sort(Comparator.comparingInt(Rec::number));
            table.clear();
            for (Rec r : later) {
                table.put(r.key, entryOf(r, where.get(r.number)));
            }
            picked = NONE;
            noted.clear();
            number = Math.max(secured, mark);
            return gone;
        }

        boolean isLive(int s, Rec r) {
            Ent e = current(r.key);
            return e != null && e.kind == 3 && e.segment == s && e.begin == r.begin;
        }

        int live(int s) {
            int sum = 0;
            for (Rec r : segments.get(s)) {
                sum += isLive(s, r) ? r.size() : 0;
            }
            return sum;
        }

        int poorest() {
            int best = NONE;
            for (int s = 11; s >= 0; s--) {
                if (sealed[s] && (best == NONE || live(s) <= live(best))) {
                    best = s;
                }
            }
            return best;
        }

        int pick(int s) {
            if (picked != NONE) {
                throw new Refused(3);
            }
            int which = s == NONE ? poorest() : s;
            if (which == NONE || !sealed[which]) {
                throw new Refused(4);
            }
            picked = which;
            noted.clear();
            for (Rec r : segments.get(which)) {
                if (isLive(which, r)) {
                    noted.add(r);
                }
            }
            return noted.size();
        }

        int step(int n) {
            if (picked == NONE) {
                throw new Refused(5);
            }
            int back = 0;
            int skipped = 0;
            for (int i = 0; i < n && picked != NONE; i++) {
                if (!noted.isEmpty()) {
                    Rec r = noted.get(0);
                    if (isLive(picked, r)) {
                        if (!fits(r.size())) {
                            if (back == 0) {
                                throw new Refused(1);
                            }
                            break;
                        }
                        enter(r.key, r.length, r.seed);
                        back++;
                    } else {
                        skipped++;
                    }
                    noted.remove(0);
                }
                if (noted.isEmpty()) {
                    flush();
                    sealed[picked] = false;
                    segments.get(picked).clear();
                    row(2, picked);
                    picked = NONE;
                }
            }
            backEver += back;
            skippedEver += skipped;
            return back;
        }

        int quit() {
            if (picked == NONE) {
                throw new Refused(5);
            }
            int left = noted.size();
            picked = NONE;
            noted.clear();
            return left;
        }

        int spare() {
            int sum = room - taken(open);
            for (int s = 0; s < 12; s++) {
                sum += isFree(s) ? room : 0;
            }
            return sum;
        }

        int liveAll() {
            int sum = 0;
            for (int s = 0; s < 12; s++) {
                sum += live(s);
            }
            return sum;
        }

        int deadAll() {
            int sum = 0;
            for (int s = 0; s < 12; s++) {
                sum += taken(s) - live(s);
            }
            return sum;
        }

        /** STEPS until it is through, on a copy when one is refused: null, if they do not come to their end. */
        boolean allSteps() {
            while (picked != NONE) {
                World before = copy();
                try {
                    step(1);
                } catch (Refused e) {
                    if (before.spare() != spare()) {
                        throw new AssertionError("a refused STEP wrote");
                    }
                    return false;
                }
            }
            return true;
        }

        int doAct(String word, List<Integer> n) {
            switch (word) {
                case "store":
                    throw new AssertionError("not by a World itself");
                case "put":
                    return put(n.get(0), n.get(1), n.get(2));
                case "drop":
                    return drop(n.get(0));
                case "sync":
                    return sync();
                case "flush":
                    return flush();
                case "crash":
                    return crash();
                case "pick":
                    return pick(n.isEmpty() ? NONE : n.get(0));
                case "step":
                    return step(n.get(0));
                case "quit":
                    return quit();
                case "merge":
                    return merge();
                default:
                    throw new AssertionError(word);
            }
        }
    }

    static World made(int room, int brief, int most, int limit) {
        World w = new World();
        w.room = room;
        w.brief = brief;
        w.most = most;
        w.limit = limit;
        return w;
    }

    World w = new World();
    World image;
    final Deque<World> memory = new ArrayDeque<>();
    StringBuilder tape = new StringBuilder();
    int fault = NONE;
    int why;

    int feed(int a, int b, int c, int d, int e) {
        if (tape.length() + 20 > 400) {
            return NONE;
        }
        for (int n : new int[] {a, b, c, d, e}) {
            for (int i = 3; i >= 0; i--) {
                tape.append((char) (n >> 8 * i & 255));
            }
        }
        return tape.length();
    }

    boolean end(int n) {
        if (n < 0 || n > tape.length()) {
            return false;
        }
        tape.setLength(n);
        return true;
    }

    private static final Pattern THING = Pattern.compile(" *([a-z]+|[0-9]+|[^ ])?", Pattern.DOTALL);
    private static final Map<String, int[][]> BOUNDS = Map.of(
        "store", new int[][] {{50, 200}, {0, 40}, {2, 16}, {1, 4}},
        "put", new int[][] {{0, 63}, {1, 40}, {0, 255}},
        "drop", new int[][] {{0, 63}},
        "sync", new int[][] {}, "flush", new int[][] {}, "crash", new int[][] {},
        "pick", new int[][] {{0, 11}}, "step", new int[][] {{1, 20}},
        "quit", new int[][] {}, "merge", new int[][] {});

    record Thing(int at, String text) {
        boolean isNumber() {
            return !text.isEmpty() && text.charAt(0) >= '0' && text.charAt(0) <= '9';
        }
    }

    int acts() {
        String text = tape.toString();
        tape.setLength(0);
        List<Thing> things = new ArrayList<>();
        Matcher m = THING.matcher(text);
        int at = 0;
        while (at < text.length() && m.find(at) && m.group(1) != null) {
            things.add(new Thing(m.start(1), m.group(1)));
            at = m.end();
        }
        things.add(new Thing(text.length(), ""));
        fault = NONE;
        World before = w.copy();
        int done = 0;
        int t = 0;
        while (fault == NONE && !(t == 0 && things.get(0).text.isEmpty())) {
            Thing word = things.get(t);
            if (done == 14 || !BOUNDS.containsKey(word.text)) {
                fault = word.at;
                break;
            }
            t++;
            List<Integer> numbers = new ArrayList<>();
            for (int[] bound : BOUNDS.get(word.text)) {
                Thing thing = things.get(t);
                if (word.text.equals("pick") && !thing.isNumber()) {
                    break;
                }
                if (!thing.isNumber() || thing.text.length() > 3 || Integer.parseInt(thing.text) < bound[0]
                        || Integer.parseInt(thing.text) > bound[1]) {
                    fault = thing.at;
                    break;
                }
                numbers.add(Integer.parseInt(thing.text));
                t++;
            }
            if (fault != NONE) {
                break;
            }
            try {
                if (word.text.equals("store")) {
                    w = made(numbers.get(0), numbers.get(1), numbers.get(2), numbers.get(3));
                } else {
                    w.doAct(word.text, numbers);
                }
                done++;
            } catch (Refused e) {
                why = e.by;
                fault = word.at;
                break;
            }
            Thing behind = things.get(t);
            if (behind.text.isEmpty()) {
                break;
            }
            if (!behind.text.equals(";")) {
                fault = behind.at;
            }
            t++;
        }
        if (fault != NONE) {
            w = before;
            throw new IllegalArgumentException();
        }
        memory.clear();
        if (done > 0) {
            why = 0;
        }
        return done;
    }

    int store(int room, int brief, int most, int runs) {
        if (room < 50 || room > 200 || brief < 0 || brief > 40 || most < 2 || most > 16 || runs < 1 || runs > 4) {
            throw new IllegalArgumentException();
        }
        w = made(room, brief, most, runs);
        memory.clear();
        why = 0;
        return 11;
    }

    int act(String word, Integer... numbers) {
        World before = w.copy();
        try {
            int answer = w.doAct(word, List.of(numbers));
            memory.addLast(before);
            if (memory.size() > 8) {
                memory.removeFirst();
            }
            why = 0;
            return answer;
        } catch (Refused e) {
            w = before;
            why = e.by;
            throw new IllegalStateException();
        }
    }

    static void isIndex(int i, int size) {
        if (i < 0 || i >= size) {
            throw new IndexOutOfBoundsException();
        }
    }

    static void isWhat(int what, int size) {
        if (what < 0 || what >= size) {
            throw new NoSuchElementException();
        }
    }

    int put(int key, int length, int seed) {
        isIndex(key, 64);
        if (length < 1 || length > 40 || seed < 0 || seed > 255) {
            throw new IllegalArgumentException();
        }
        return act("put", key, length, seed);
    }

    int drop(int key) {
        isIndex(key, 64);
        return act("drop", key);
    }

    int pick(int s) {
        if (s == NONE) {
            return act("pick");
        }
        isIndex(s, 12);
        return act("pick", s);
    }

    int step(int n) {
        if (n < 1 || n > 20) {
            throw new IllegalArgumentException();
        }
        return act("step", n);
    }

    int undo() {
        if (memory.isEmpty()) {
            throw new IllegalStateException();
        }
        w = memory.removeLast();
        return memory.size();
    }

    World crashed() {
        World c = w.copy();
        c.crash();
        return c;
    }

    int key(int key, int what) {
        isIndex(key, 64);
        isWhat(what, 10);
        Ent e = w.current(key);
        int[] v = w.value(key);
        int found = w.table.containsKey(key) ? 0 : NONE;
        int all = w.table.containsKey(key) ? 1 : 0;
        int cost = 1;
        for (int i = 0; i < w.runs.size(); i++) {
            cost += found == NONE ? 1 : 0;
            if (w.runs.get(i).containsKey(key)) {
                all++;
                found = found == NONE ? i + 1 : found;
            }
        }
        cost += e != null && e.kind == 3 ? 1 : 0;
        int[] later = crashed().value(key);
        return new int[] {v == null ? NONE : v[0], v == null ? NONE : v[1], e == null ? 0 : e.kind,
            e == null ? NONE : e.number, e == null || e.kind != 3 ? NONE : e.segment,
            e == null || e.kind != 3 ? NONE : e.begin, cost, found, all, later == null ? NONE : later[0]}[what];
    }

    int[] bytes(int key) {
        int[] v = w.value(key);
        if (v == null) {
            return null;
        }
        int[] b = new int[v[0]];
        for (int i = 0; i < b.length; i++) {
            b[i] = (v[1] + 7 * i) % 256;
        }
        return b;
    }

    int octet(int key, int i) {
        isIndex(key, 64);
        int[] b = bytes(key);
        return b == null || i < 0 || i >= b.length ? NONE : b[i];
    }

    int from(int key, int k) {
        isIndex(key, 64);
        List<Integer> keys = w.keys();
        keys.removeIf(o -> o < key);
        return k < 0 || k >= keys.size() ? NONE : keys.get(k);
    }

    int below(int key) {
        isIndex(key, 64);
        List<Integer> keys = w.keys();
        keys.removeIf(o -> o >= key);
        return keys.size();
    }

    int segment(int s, int what) {
        isIndex(s, 12);
        isWhat(what, 7);
        List<Rec> all = w.segments.get(s);
        int greatest = NONE;
        for (Rec r : all) {
            greatest = Math.max(greatest, r.number);
        }
        int dead = w.taken(s) - w.live(s);
        return new int[] {w.sealed[s] ? 2 : w.open == s ? 1 : 0, all.size(), w.taken(s), w.live(s), dead, greatest,
            w.sealed[s] ? dead - w.live(s) : 0}[what];
    }

    int record(int s, int k, int what) {
        isIndex(s, 12);
        isWhat(what, 5);
        List<Rec> all = w.segments.get(s);
        if (k < 0 || k >= all.size()) {
            return NONE;
        }
        Rec r = all.get(k);
        return new int[] {r.key, r.length, r.number, r.begin, w.isLive(s, r) ? 1 : 0}[what];
    }

    int run(int run, int what) {
        isIndex(run, w.runs.size());
        isWhat(what, 5);
        TreeMap<Integer, Ent> r = w.runs.get(run);
        int drops = 0;
        int currents = 0;
        for (Map.Entry<Integer, Ent> e : r.entrySet()) {
            drops += e.getValue().kind == 1 ? 1 : 0;
            currents += w.current(e.getKey()) == e.getValue() ? 1 : 0;
        }
        return new int[] {r.size(), r.firstKey(), r.lastKey(), drops, currents}[what];
    }

    int entry(int run, int k) {
        if (run != NONE) {
            isIndex(run, w.runs.size());
        }
        List<Integer> keys = new ArrayList<>((run == NONE ? w.table : w.runs.get(run)).keySet());
        return k < 0 || k >= keys.size() ? NONE : keys.get(k);
    }

    int overlap(int run, int other) {
        isIndex(run, w.runs.size());
        isIndex(other, w.runs.size());
        if (run == other) {
            throw new IllegalArgumentException();
        }
        List<Integer> keys = new ArrayList<>(w.runs.get(run).keySet());
        keys.retainAll(w.runs.get(other).keySet());
        return keys.size();
    }

    int rank(int key, boolean twin) {
        isIndex(key, 64);
        int[] mine = bytes(key);
        if (mine == null) {
            return NONE;
        }
        int less = 0;
        int same = NONE;
        for (int other : w.keys()) {
            int c = java.util.Arrays.compare(bytes(other), mine);
            less += c < 0 ? 1 : 0;
            same = c == 0 && other != key && same == NONE ? other : same;
        }
        return twin ? same : less;
    }

    int old(int k) {
        List<Integer> keys = w.keys();
        keys.sort(Comparator.comparingInt(key -> w.current(key).number));
        return k < 0 || k >= keys.size() ? NONE : keys.get(k);
    }

    int holds(int length) {
        if (length < 1 || length > 40) {
            throw new IllegalArgumentException();
        }
        World c = w.copy();
        int n = 0;
        try {
            while (n < 99) {
                c.put(n % 64, length, 0);
                n++;
            }
        } catch (Refused e) {
            return n;
        }
        return n;
    }

    int would(int s, int what) {
        isIndex(s, 12);
        isWhat(what, 3);
        World c = w.copy();
        try {
            c.pick(s);
        } catch (Refused e) {
            return -1000;
        }
        if (!c.allSteps()) {
            return -1000;
        }
        return new int[] {c.backEver - w.backEver, c.spare() - w.spare(), c.rows - w.rows}[what];
    }

    int sweep(int n, int what) {
        if (n < 1 || n > 6) {
            throw new IllegalArgumentException();
        }
        isWhat(what, 3);
        World c = w.copy();
        int ended = 0;
        for (int i = 0; i < n; i++) {
            if (c.picked != NONE) {
                c.quit();
            }
            if (c.poorest() == NONE) {
                break;
            }
            c.pick(NONE);
            if (!c.allSteps()) {
                break;
            }
            ended++;
        }
        return new int[] {ended, c.spare(), 100 * c.liveAll() / (c.spare() + c.liveAll() + c.deadAll())}[what];
    }

    int traces(int key, int what) {
        isIndex(key, 64);
        isWhat(what, 3);
        int[] answer = new int[3];
        for (int s = 0; s < 12; s++) {
            for (Rec r : w.segments.get(s)) {
                if (r.key == key) {
                    answer[0]++;
                    answer[1] += r.size();
                    answer[2] |= 1 << s;
                }
            }
        }
        return answer[what];
    }

    int log(int k, int what) {
        isWhat(what, 3);
        if (k < 0 || k >= w.log.size()) {
            return NONE;
        }
        Row r = w.log.get(k);
        return what == 0 ? r.what : what == 1 ? r.number : r.latest;
    }

    void image() {
        image = w.copy();
    }

    boolean back() {
        if (image == null) {
            return false;
        }
        w = image.copy();
        memory.clear();
        return true;
    }

    int count(int what) {
        int free = 0;
        int replay = 0;
        for (int s = 0; s < 12; s++) {
            free += w.isFree(s) ? 1 : 0;
            for (Rec r : w.segments.get(s)) {
                replay += r.number > w.mark && r.number <= w.secured ? 1 : 0;
            }
        }
        if (what == 21) {
            World c = crashed();
            int doomed = 0;
            for (int k = 0; k < 64; k++) {
                doomed += java.util.Arrays.equals(w.value(k), c.value(k)) ? 0 : 1;
            }
            return doomed;
        }
        int heaviest = NONE;
        for (int k : w.keys()) {
            heaviest = heaviest == NONE || w.value(k)[0] > w.value(heaviest)[0] ? k : heaviest;
        }
        int[] all = {w.room, w.brief, w.most, w.limit, w.runs.size(), w.table.size(), w.keys().size(), w.number,
            w.secured, w.mark, free, w.open, w.liveAll(), w.deadAll(), w.picked, w.noted.size(), w.backEver,
            w.skippedEver, w.written, w.rows, w.told == 0 ? 100 : w.written * 100 / w.told, 0, w.spare(), w.poorest(),
            heaviest, memory.size(), w.log.size(), replay};
        return what < 0 || what >= all.length ? NONE : all[what];
    }
}
