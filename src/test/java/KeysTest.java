/** Promises 18 to 21, 27 and 28: what is asked of KEYS and VALUES. */
public final class KeysTest {
    private static AsideStore x;

    public static void main(String[] args) {
        wrongArguments();
        keysWithoutAnything();
        placesAndCosts();
        behindACrash();
        octets();
        inOrder();
        ranks();
        twins();
        ages();
        Check.end();
    }

    private static void due(String what, Object due, Check.Call call) {
        Check.due(what, due, call);
    }

    private static void wrongArguments() {
        x = new AsideStore();
        for (int wrong : new int[] {-1, 64, Integer.MIN_VALUE, Integer.MAX_VALUE}) {
            due("key", Check.INDEX, () -> x.key(wrong, 99));
            due("octet", Check.INDEX, () -> x.octet(wrong, 0));
            due("from", Check.INDEX, () -> x.from(wrong, 0));
            due("below", Check.INDEX, () -> x.below(wrong));
            due("rank", Check.INDEX, () -> x.rank(wrong, false));
            due("twin", Check.INDEX, () -> x.rank(wrong, true));
        }
        due("what -1", Check.ELEMENT, () -> x.key(0, -1));
        due("what 10", Check.ELEMENT, () -> x.key(0, 10));
    }

    private static void of(int key, int... answers) {
        for (int i = 0; i < answers.length; i++) {
            int what = i;
            due("key " + key + " what " + what, answers[i], () -> x.key(key, what));
        }
    }

    private static void keysWithoutAnything() {
        x = new AsideStore();
        of(0, -1, -1, 0, -1, -1, -1, 1, -1, 0, -1);
        of(63, -1, -1, 0, -1, -1, -1, 1, -1, 0, -1);
    }

    private static void placesAndCosts() {
        x = new AsideStore();
        x.store(50, 8, 16, 4);
        x.put(1, 8, 200);
        x.put(2, 9, 201);
        x.put(3, 30, 202);
        of(1, 8, 200, 2, 1, -1, -1, 1, 0, 1, -1);
        of(2, 9, 201, 3, 2, 0, 12, 2, 0, 1, -1);
        of(3, 30, 202, 3, 3, 1, 0, 2, 0, 1, -1);
        x.flush();
        of(1, 8, 200, 2, 1, -1, -1, 2, 1, 1, 8);
        of(2, 9, 201, 3, 2, 0, 12, 3, 1, 1, 9);
        of(9, -1, -1, 0, -1, -1, -1, 2, -1, 0, -1);
        x.put(2, 3, 7);
        x.drop(3);
        x.flush();
        x.put(1, 10, 10);
        of(1, 10, 10, 3, 6, 2, 0, 2, 0, 2, 8);
        of(2, 3, 7, 2, 4, -1, -1, 2, 1, 2, 3);
        of(3, -1, -1, 1, 5, -1, -1, 2, 1, 2, -1);
        x.put(4, 40, 4);
        x.flush();
        of(2, 3, 7, 2, 4, -1, -1, 3, 2, 2, 3);
        of(3, -1, -1, 1, 5, -1, -1, 3, 2, 2, -1);
        of(4, 40, 4, 3, 7, 3, 0, 3, 1, 1, 40);
    }

    private static void behindACrash() {
        x = new AsideStore();
        x.store(200, 8, 16, 4);
        x.put(1, 10, 1);
        x.put(2, 11, 2);
        x.put(3, 12, 3);
        x.flush();
        x.put(1, 20, 9);
        x.drop(2);
        x.sync();
        x.put(1, 21, 9);
        x.put(2, 22, 9);
        x.drop(3);
        x.put(4, 4, 4);
        due("1 as at the SYNC", 20, () -> x.key(1, 9));
        due("2 was dropped ahead of it", -1, () -> x.key(2, 9));
        due("3 is in the RUN", 12, () -> x.key(3, 9));
        due("4 is lost", -1, () -> x.key(4, 9));
        due("DOOMED", 4, () -> x.count(21));
        due("asking changes nothing", 21, () -> x.key(1, 0));
        due("no row", 1, () -> x.count(26));
        x.put(3, 12, 3);
        due("3 has the same VALUE again", 3, () -> x.count(21));
        x.put(3, 12, 4);
        due("of another SEED", 4, () -> x.count(21));
        x.sync();
        due("none", 0, () -> x.count(21));
    }

    private static void octets() {
        x = new AsideStore();
        x.put(5, 40, 250);
        x.put(6, 1, 255);
        for (int i = 0; i < 40; i++) {
            int at = i;
            due("octet " + i, (250 + 7 * i) % 256, () -> x.octet(5, at));
        }
        due("behind the last", -1, () -> x.octet(5, 40));
        due("ahead of the first", -1, () -> x.octet(5, -1));
        due("far behind", -1, () -> x.octet(5, Integer.MAX_VALUE));
        due("far ahead", -1, () -> x.octet(5, Integer.MIN_VALUE));
        due("the one", 255, () -> x.octet(6, 0));
        due("no second", -1, () -> x.octet(6, 1));
        due("no VALUE", -1, () -> x.octet(7, 0));
        x.drop(6);
        due("DROPPED", -1, () -> x.octet(6, 0));
        x.flush();
        due("from a RUN", 250, () -> x.octet(5, 0));
    }

    private static void inOrder() {
        x = new AsideStore();
        x.put(63, 1, 1);
        x.put(10, 30, 1);
        x.flush();
        x.put(20, 1, 1);
        x.put(0, 1, 1);
        x.put(15, 1, 1);
        x.drop(15);
        due("0", 0, () -> x.from(0, 0));
        due("10", 10, () -> x.from(0, 1));
        due("20", 20, () -> x.from(0, 2));
        due("63", 63, () -> x.from(0, 3));
        due("none", -1, () -> x.from(0, 4));
        due("10 itself", 10, () -> x.from(10, 0));
        due("behind 10", 20, () -> x.from(11, 0));
        due("63 itself", 63, () -> x.from(63, 0));
        due("none", -1, () -> x.from(63, 1));
        due("none", -1, () -> x.from(0, -1));
        due("none", -1, () -> x.from(0, Integer.MIN_VALUE));
        due("below 0", 0, () -> x.below(0));
        due("below 1", 1, () -> x.below(1));
        due("below 10", 1, () -> x.below(10));
        due("below 16", 2, () -> x.below(16));
        due("below 63", 3, () -> x.below(63));
        due("VALUES", 4, () -> x.count(6));
    }

    private static void ranks() {
        x = new AsideStore();
        x.put(1, 20, 100);
        x.put(2, 3, 100);
        x.put(3, 40, 99);
        x.put(4, 1, 255);
        x.put(5, 20, 100);
        due("99 first", 0, () -> x.rank(3, false));
        due("ends ahead, alike so far", 1, () -> x.rank(2, false));
        due("then the longer", 2, () -> x.rank(1, false));
        due("and its twin", 2, () -> x.rank(5, false));
        due("bytes are 0 to 255", 4, () -> x.rank(4, false));
        due("no VALUE", -1, () -> x.rank(6, false));
        x.drop(3);
        due("DROPPED", -1, () -> x.rank(3, false));
        due("one fewer", 0, () -> x.rank(2, false));
    }

    private static void twins() {
        x = new AsideStore();
        x.put(9, 20, 100);
        x.put(5, 20, 100);
        x.put(7, 20, 100);
        x.put(8, 20, 101);
        x.put(6, 21, 100);
        due("the least other", 5, () -> x.rank(9, true));
        due("the least other", 7, () -> x.rank(5, true));
        due("the least other", 5, () -> x.rank(7, true));
        due("another SEED", -1, () -> x.rank(8, true));
        due("another LENGTH", -1, () -> x.rank(6, true));
        due("no VALUE", -1, () -> x.rank(1, true));
        x.drop(5);
        due("DROPPED is none", 9, () -> x.rank(7, true));
        due("DROPPED has none", -1, () -> x.rank(5, true));
        x.drop(7);
        due("two DROPPED ones are no twins", -1, () -> x.rank(7, true));
    }

    private static void ages() {
        x = new AsideStore();
        due("none", -1, () -> x.old(0));
        x.put(9, 20, 1);
        x.put(3, 2, 1);
        x.put(6, 20, 1);
        x.flush();
        x.put(9, 20, 1);
        x.drop(6);
        x.put(0, 1, 1);
        due("3", 3, () -> x.old(0));
        due("9", 9, () -> x.old(1));
        due("0", 0, () -> x.old(2));
        due("none", -1, () -> x.old(3));
        due("none", -1, () -> x.old(-1));
        due("none", -1, () -> x.old(Integer.MAX_VALUE));
    }
}
