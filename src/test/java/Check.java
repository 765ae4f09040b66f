import java.util.NoSuchElementException;

/** What the tests share: answers held against what is due, and texts fed to a TAPE. */
final class Check {
    static final String INDEX = "throws.IndexOutOfBoundsException";
    static final String ARGUMENT = "throws.IllegalArgumentException";
    static final String STATE = "throws.IllegalStateException";
    static final String ELEMENT = "throws.NoSuchElementException";

    private static int wrong;
    private static int looked;

    interface Call {
        Object answer();
    }

    private Check() {
    }

    static String answerOf(Call call) {
        try {
            return String.valueOf(call.answer());
        } catch (IndexOutOfBoundsException e) {
            return e.getClass() == IndexOutOfBoundsException.class ? INDEX : e.toString();
        } catch (IllegalArgumentException e) {
            return e.getClass() == IllegalArgumentException.class ? ARGUMENT : e.toString();
        } catch (IllegalStateException e) {
            return e.getClass() == IllegalStateException.class ? STATE : e.toString();
        } catch (NoSuchElementException e) {
            return e.getClass() == NoSuchElementException.class ? ELEMENT : e.toString();
        } catch (RuntimeException e) {
            return e.toString();
        }
    }

    /** due: a number, a boolean, or the name behind throws. */
    static void due(String what, Object due, Call call) {
        looked++;
        String got = answerOf(call);
        if (!got.equals(String.valueOf(due))) {
            wrong++;
            if (wrong <= 40) {
                System.out.println(what + " answered " + cut(got) + ", due is " + cut(String.valueOf(due)));
            }
        }
    }

    private static String cut(String text) {
        return text.length() > 200 ? text.substring(0, 200) + ".." : text;
    }

    static void feed(AsideStore store, String text) {
        byte[] bytes = new byte[(text.length() + 19) / 20 * 20];
        for (int i = 0; i < text.length(); i++) {
            bytes[i] = (byte) text.charAt(i);
        }
        for (int i = 0; i < bytes.length; i += 20) {
            store.feed(word(bytes, i), word(bytes, i + 4), word(bytes, i + 8), word(bytes, i + 12), word(bytes, i + 16));
        }
        store.end(text.length());
    }

    private static int word(byte[] b, int i) {
        return (b[i] & 255) << 24 | (b[i + 1] & 255) << 16 | (b[i + 2] & 255) << 8 | b[i + 3] & 255;
    }

    static int told(AsideStore store, String text) {
        feed(store, text);
        return store.acts();
    }

    static int wrongSoFar() {
        return wrong;
    }

    static void end() {
        System.out.println(looked + " answers looked at, " + wrong + " not as due");
        if (wrong != 0) {
            System.exit(1);
        }
    }
}
