/** Everything that can be asked of an object, as one text: two objects that are alike answer alike. */
final class Picture {
    private final AsideStore x;
    private final StringBuilder text = new StringBuilder();

    private Picture(AsideStore x) {
        this.x = x;
    }

    /** All but why() and fault(), which some calls may change alone. */
    static String of(AsideStore x) {
        Picture picture = new Picture(x);
        picture.counts();
        picture.keys();
        picture.segments();
        picture.runs();
        picture.onPaper();
        picture.rows();
        return picture.text.toString();
    }

    /** What an object still has behind what can be asked: its TAPE, THE IMAGE and what is remembered. */
    static String ofWhatIsHidden(AsideStore x) {
        StringBuilder text = new StringBuilder();
        int bytes = 400;
        while (bytes > 0 && !x.end(bytes)) {
            bytes--;
        }
        text.append("TAPE ").append(bytes).append('\n');
        for (int left = x.count(25); left > 0; left--) {
            text.append("undo ").append(x.undo()).append('\n').append(of(x));
        }
        text.append("acts ").append(Check.answerOf(() -> x.acts())).append(' ').append(x.fault()).append('\n').append(of(x));
        text.append("back ").append(x.back()).append('\n').append(of(x));
        return text.toString();
    }

    private void add(int answer) {
        text.append(answer).append(' ');
    }

    private void line(String name) {
        text.append('\n').append(name).append(": ");
    }

    private void counts() {
        line("count");
        for (int what = 0; what <= 28; what++) {
            add(x.count(what));
        }
    }

    private void keys() {
        for (int key = 0; key < 64; key++) {
            line("key " + key);
            for (int what = 0; what < 10; what++) {
                add(x.key(key, what));
            }
            add(x.octet(key, 0));
            add(x.octet(key, 39));
            add(x.from(key, 0));
            add(x.from(key, 1));
            add(x.below(key));
            add(x.rank(key, false));
            add(x.rank(key, true));
            add(x.old(key));
            for (int what = 0; what < 3; what++) {
                add(x.traces(key, what));
            }
        }
    }

    private void segments() {
        for (int segment = 0; segment < 12; segment++) {
            line("segment " + segment);
            for (int what = 0; what < 7; what++) {
                add(x.segment(segment, what));
            }
            for (int k = 0; k < x.segment(segment, 1); k++) {
                for (int what = 0; what < 5; what++) {
                    add(x.record(segment, k, what));
                }
            }
        }
    }

    private void runs() {
        for (int run = -1; run < x.count(4); run++) {
            line("run " + run);
            for (int k = 0; x.entry(run, k) != -1; k++) {
                add(x.entry(run, k));
            }
            for (int what = 0; what < 5 && run >= 0; what++) {
                add(x.run(run, what));
            }
            for (int other = 0; other < run; other++) {
                add(x.overlap(run, other));
            }
        }
    }

    private void onPaper() {
        line("on paper");
        for (int length = 1; length <= 40; length++) {
            add(x.holds(length));
        }
        for (int what = 0; what < 3; what++) {
            for (int segment = 0; segment < 12; segment++) {
                add(x.would(segment, what));
            }
            for (int n = 1; n <= 6; n++) {
                add(x.sweep(n, what));
            }
        }
    }

    private void rows() {
        line("log");
        for (int k = 0; k <= 30; k++) {
            add(x.log(k, 0));
            add(x.log(k, 1));
            add(x.log(k, 2));
        }
        text.append('\n');
    }
}
