import java.util.Arrays;

/**
 * What the tests of the document's sentences share. The document frees what an object answers after
 * its 512th call, so what is read here of an object takes few calls.
 */
final class Checks {
    static final int LOW = Integer.MIN_VALUE;
    static final int HIGH = Integer.MAX_VALUE;
    static final int MAP = -1;

    private static final int[] NO_VIEWS = {LOW, -2, 4, HIGH};
    private static final int FEW = 5;

    private static String held = "";
    private static int sentences = 0;
    private static int wrong = 0;

    private Checks() {
    }

    /** A call that names a view. */
    interface OfView {
        void call(LazyPages x, int view);
    }

    /** A call on a range of keys. */
    interface OfRange {
        void call(LazyPages x, int from, int to);
    }

    /** One test of one sentence; the place is the section of the document that has the sentence. */
    static void sentence(String place, String words, Runnable test) {
        held = place + ", \"" + words + "\"";
        sentences++;
        try {
            test.run();
        } catch (RuntimeException e) {
            tell("a call that is due to answer threw " + e);
        }
    }

    static void end() {
        System.out.println(wrong == 0 ? sentences + " sentences hold" : wrong + " answers are not as due");
        System.exit(wrong == 0 ? 0 : 1);
    }

    static void tell(String text) {
        wrong++;
        System.out.println(held + ": " + text);
    }

    static void due(String what, long got, long want) {
        if (got != want) {
            tell(what + " answered " + got + ", due is " + want);
        }
    }

    static void due(String what, boolean got, boolean want) {
        if (got != want) {
            tell(what + " answered " + got + ", due is " + want);
        }
    }

    static void dueContent(String what, LazyPages x, int view, long... want) {
        String got = content(x, view);
        StringBuilder due = new StringBuilder();
        long sum = 0;
        for (int i = 0; i < want.length; i += 2) {
            sum += want[i + 1];
            due.append(' ').append(want[i]).append('=').append(want[i + 1]);
        }
        due.insert(0, want.length / 2 + " keys, sum " + sum + ":");
        if (!got.contentEquals(due)) {
            tell(what + ": there are " + got + ", due are " + due);
        }
    }

    static void wrongArgument(LazyPages x, String what, Runnable call) {
        thrown(x, what, IllegalArgumentException.class, call);
    }

    static void wrongView(LazyPages x, String what, Runnable call) {
        thrown(x, what, IndexOutOfBoundsException.class, call);
    }

    static void refused(LazyPages x, String what, Runnable call) {
        thrown(x, what, UnsupportedOperationException.class, call);
    }

    /** The call throws just this, and what the object shows is as before. */
    private static void thrown(LazyPages x, String what, Class<?> want, Runnable call) {
        String before = state(x);
        Class<?> got = null;
        try {
            call.run();
        } catch (RuntimeException e) {
            got = e.getClass();
        }
        if (got != want) {
            tell(what + " threw " + got + ", due is " + want);
        }
        String after = state(x);
        if (!before.equals(after)) {
            tell(what + " changed " + before + " to " + after);
        }
    }

    static String state(LazyPages x) {
        StringBuilder text = new StringBuilder();
        text.append(x.total(0)).append(" messages, ").append(x.total(1)).append(" kept, ");
        text.append(x.total(2)).append(" views");
        for (int view = MAP; view < 4; view++) {
            text.append("; ").append(view).append(": ").append(content(x, view));
        }
        return text.toString();
    }

    /** Of a few keys all, of many the first, the middle and the last one. */
    static String content(LazyPages x, int view) {
        int keys;
        try {
            keys = x.count(view, LOW, HIGH);
        } catch (IndexOutOfBoundsException e) {
            return "none";
        }
        StringBuilder text = new StringBuilder();
        text.append(keys).append(" keys, sum ").append(x.sum(view, LOW, HIGH)).append(':');
        for (int i = 0; i < keys; i++) {
            if (keys <= FEW || i == 0 || i == keys / 2 || i == keys - 1) {
                int key = x.key(view, LOW, i);
                text.append(' ').append(key).append('=').append(x.get(view, key));
            }
        }
        return text.toString();
    }

    static LazyPages with(long... keysAndValues) {
        LazyPages x = new LazyPages();
        for (int i = 0; i < keysAndValues.length; i += 2) {
            x.put((int) keysAndValues[i], keysAndValues[i + 1]);
        }
        return x;
    }

    /** Keys 0, 1, .. with values that are the same. */
    static LazyPages withKeys(int keys) {
        LazyPages x = new LazyPages();
        for (int from = 0; from < keys; from += 300) {
            x.putAll(from, 1, from, 1, Math.min(300, keys - from));
        }
        return x;
    }

    /** Keys 0 .. 299 with values 0, and so many messages. */
    static LazyPages withMessages(int messages) {
        LazyPages x = new LazyPages();
        for (int left = messages; left > 0; left -= 300) {
            x.putAll(0, 1, 0, 0, Math.min(left, 300));
        }
        return x;
    }

    static void saveAll(LazyPages x) {
        for (int view = 0; view < 4; view++) {
            x.save(view);
        }
    }

    /** "view is not -1 .. 3, or none": both sides of both ends, and each view before and after its save. */
    static void onlyTheMapAndViews(String name, OfView reading) {
        notOfNoView(name, reading);
        LazyPages x = with(1, 10, 2, 20);
        reading.call(x, MAP);
        for (int view = 0; view < 4; view++) {
            int number = view;
            wrongView(x, name + " of view " + view + ", which is none", () -> reading.call(x, number));
            x.save(view);
            reading.call(x, view);
        }
    }

    /** "it is not 0 .. 3": both sides of both ends, with no view saved and with all. */
    static void onlyViewNumbers(String name, OfView call) {
        notOfNoView(name, call);
        LazyPages x = with(1, 10, 2, 20);
        wrongView(x, name + " of the map", () -> call.call(x, MAP));
        saveAll(x);
        wrongView(x, name + " of the map", () -> call.call(x, MAP));
        for (int view = 0; view < 4; view++) {
            call.call(x, view);
        }
    }

    private static void notOfNoView(String name, OfView call) {
        LazyPages without = with(1, 10, 2, 20);
        LazyPages all = with(1, 10, 2, 20);
        saveAll(all);
        for (int view : NO_VIEWS) {
            wrongView(without, name + " of view " + view, () -> call.call(without, view));
            wrongView(all, name + " of view " + view, () -> call.call(all, view));
        }
    }

    /** "from is above to": by one and by far; not when they are the same or to is above. */
    static void onlyRanges(String name, OfRange call) {
        LazyPages x = with(4, 40, 5, 50);
        int[][] turned = {{5, 4}, {0, -1}, {HIGH, LOW}, {LOW + 1, LOW}, {HIGH, HIGH - 1}};
        for (int[] range : turned) {
            wrongArgument(x, name + Arrays.toString(range), () -> call.call(x, range[0], range[1]));
        }
        int[][] ranges = {{4, 5}, {5, 5}, {0, 0}, {-1, 0}, {LOW, LOW}, {HIGH, HIGH}, {LOW, HIGH}};
        for (int[] range : ranges) {
            call.call(x, range[0], range[1]);
        }
    }
}
