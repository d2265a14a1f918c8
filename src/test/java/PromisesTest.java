import java.util.Arrays;

/** For each promise of the document: ordinary inputs, the edges that it names, and wrong inputs. */
public final class PromisesTest {
    private static final int LOW = Integer.MIN_VALUE;
    private static final int HIGH = Integer.MAX_VALUE;
    private static final int MAP = -1;
    private static final Class<?> INDEX = IndexOutOfBoundsException.class;
    private static final Class<?> ARGUMENT = IllegalArgumentException.class;
    private static final Class<?> REFUSED = UnsupportedOperationException.class;
    private static final int[] NO_VIEWS = {-2, 4, LOW, HIGH};

    private static int promise = 0;
    private static int wrong = 0;

    private static void due(String what, long got, long want) {
        if (got != want) {
            tell(what + " answered " + got + ", due is " + want);
        }
    }

    private static void due(String what, boolean got, boolean want) {
        due(what, got ? 1 : 0, want ? 1 : 0);
    }

    private static void tell(String text) {
        wrong++;
        System.out.println("promise " + promise + ": " + text);
    }

    /** The call throws just this, and everything that can be read is as before. */
    private static void thrown(LazyPages x, String what, Class<?> want, Runnable call) {
        String before = state(x);
        Class<?> got = null;
        try {
            call.run();
        } catch (RuntimeException e) {
            got = e.getClass();
        }
        if (got != want) {
            tell(what + " threw " + got + ", due is " + want);
        }
        String after = state(x);
        if (!before.equals(after)) {
            tell(what + " threw and changed " + before + " to " + after);
        }
    }

    private static String state(LazyPages x) {
        StringBuilder text = new StringBuilder();
        text.append(x.total(0)).append(' ').append(x.total(1)).append(' ').append(x.total(2));
        for (int view = MAP; view < 4; view++) {
            text.append(" view ").append(view).append(Arrays.toString(content(x, view)));
        }
        return text.toString();
    }

    /** Keys and values by turns; nothing if the view is none. */
    private static long[] content(LazyPages x, int view) {
        try {
            long[] content = new long[2 * x.count(view, LOW, HIGH)];
            for (int i = 0; 2 * i < content.length; i++) {
                int key = x.key(view, LOW, i);
                content[2 * i] = key;
                content[2 * i + 1] = x.get(view, key);
            }
            return content;
        } catch (IndexOutOfBoundsException e) {
            return null;
        }
    }

    private static void dueContent(String what, LazyPages x, int view, long... want) {
        long[] got = content(x, view);
        if (!Arrays.equals(got, want)) {
            tell(what + ": there is " + Arrays.toString(got) + ", due is " + Arrays.toString(want));
        }
    }

    private static LazyPages fullOfKeys() {
        LazyPages x = new LazyPages();
        x.putAll(0, 1, 0, 1, 300);
        x.putAll(300, 1, 300, 1, 300);
        return x;
    }

    /** Keys 0 .. 299 with values 0, and so many messages. */
    private static LazyPages withMessages(int messages) {
        LazyPages x = new LazyPages();
        for (int left = messages; left > 0; left -= 300) {
            x.putAll(0, 1, 0, 0, Math.min(left, 300));
        }
        return x;
    }

    private static LazyPages with(long... keysAndValues) {
        LazyPages x = new LazyPages();
        for (int i = 0; i < keysAndValues.length; i += 2) {
            x.put((int) keysAndValues[i], keysAndValues[i + 1]);
        }
        return x;
    }

    private static void newObject() {
        LazyPages x = new LazyPages();
        dueContent("a new map", x, MAP);
        due("messages", x.total(0), 0);
        due("kept", x.total(1), 0);
        due("views", x.total(2), 0);
        due("isSound", x.isSound(), true);
        due("crash", x.crash(), 0);
        LazyPages y = new LazyPages();
        x.put(1, 1);
        x.save(0);
        x.sync();
        due("another object's messages", y.total(0), 0);
        due("another object's views", y.total(2), 0);
        dueContent("another object's map", y, MAP);
        due("NONE", LazyPages.NONE, -1);
    }

    private static void put() {
        LazyPages x = new LazyPages();
        due("first put", x.put(5, 7), 1);
        due("second put", x.put(LOW, Long.MIN_VALUE), 2);
        due("third put", x.put(HIGH, Long.MAX_VALUE), 3);
        due("put of a key that is there", x.put(5, -8), 4);
        dueContent("after puts", x, MAP, LOW, Long.MIN_VALUE, 5, -8, HIGH, Long.MAX_VALUE);
        LazyPages full = fullOfKeys();
        thrown(full, "put of key 601", REFUSED, () -> full.put(-1, 1));
        thrown(full, "put of key 601", REFUSED, () -> full.put(600, 1));
        due("put into the full map", full.put(599, 1), 601);
        full.delete(7, 7);
        due("put after a delete", full.put(600, 1), 603);
        LazyPages last = withMessages(2499);
        due("put of the last message", last.put(1000, 1), 2500);
        thrown(last, "put of one more", REFUSED, () -> last.put(0, 1));
        thrown(last, "put of one more", REFUSED, () -> last.put(1001, 1));
    }

    private static void add() {
        LazyPages x = new LazyPages();
        due("add to none", x.add(3, 4), 4);
        due("add", x.add(3, -9), -5);
        due("add of 0 to none", x.add(4, 0), 0);
        due("has", x.has(MAP, 4), true);
        x.put(5, Long.MAX_VALUE);
        due("add that wraps", x.add(5, 1), Long.MIN_VALUE);
        due("messages", x.total(0), 5);
        dueContent("after adds", x, MAP, 3, -5, 4, 0, 5, Long.MIN_VALUE);
        LazyPages full = fullOfKeys();
        thrown(full, "add of key 601", REFUSED, () -> full.add(600, 1));
        due("add in the full map", full.add(0, 5), 5);
        LazyPages last = withMessages(2499);
        due("add of the last message", last.add(0, 6), 6);
        thrown(last, "add of one more", REFUSED, () -> last.add(0, 1));
    }

    private static void most() {
        LazyPages x = new LazyPages();
        due("most of none", x.most(3, -4), -4);
        due("most, smaller", x.most(3, -5), -4);
        due("most, the same", x.most(3, -4), -4);
        due("most, greater", x.most(3, 9), 9);
        due("most of the least", x.most(4, Long.MIN_VALUE), Long.MIN_VALUE);
        due("most of far ones", x.most(4, Long.MAX_VALUE), Long.MAX_VALUE);
        due("most of far ones", x.most(4, Long.MIN_VALUE), Long.MAX_VALUE);
        due("messages", x.total(0), 7);
        dueContent("after mosts", x, MAP, 3, 9, 4, Long.MAX_VALUE);
        LazyPages full = fullOfKeys();
        thrown(full, "most of key 601", REFUSED, () -> full.most(600, 1));
        due("most in the full map", full.most(599, 700), 700);
        LazyPages last = withMessages(2499);
        due("most of the last message", last.most(0, 6), 6);
        thrown(last, "most of one more", REFUSED, () -> last.most(0, 9));
    }

    private static void delete() {
        LazyPages x = with(LOW, 1, -5, 2, 0, 3, 5, 4, HIGH, 5);
        due("delete between keys", x.delete(1, 4), 0);
        due("a delete of nothing is a message", x.total(0), 6);
        due("delete of the ends", x.delete(-5, 5), 3);
        dueContent("after a delete", x, MAP, LOW, 1, HIGH, 5);
        due("delete of one", x.delete(LOW, LOW), 1);
        due("delete of all", x.delete(LOW, HIGH), 1);
        due("delete of all once more", x.delete(LOW, HIGH), 0);
        dueContent("after a delete of all", x, MAP);
        due("messages", x.total(0), 10);
        x.put(5, 1);
        dueContent("a key that comes again", x, MAP, 5, 1);
        thrown(x, "delete(5, 4)", ARGUMENT, () -> x.delete(5, 4));
        thrown(x, "delete(HIGH, LOW)", ARGUMENT, () -> x.delete(HIGH, LOW));
        LazyPages full = fullOfKeys();
        due("delete of many", full.delete(1, 598), 598);
        dueContent("after a delete of many", full, MAP, 0, 0, 599, 599);
        LazyPages last = withMessages(2499);
        due("delete as the last message", last.delete(0, 9), 10);
        thrown(last, "delete of one more", REFUSED, () -> last.delete(0, 299));
        thrown(last, "delete of one more, (5, 4)", ARGUMENT, () -> last.delete(5, 4));
    }

    private static void raise() {
        LazyPages x = with(LOW, 1, -5, 2, 0, 3, 5, Long.MAX_VALUE, HIGH, 5);
        due("raise between keys", x.raise(1, 4, 9), 0);
        due("a raise of nothing is a message", x.total(0), 6);
        due("raise of the ends", x.raise(-5, 5, 1), 3);
        due("raise by 0", x.raise(LOW, HIGH, 0), 5);
        due("raise of all", x.raise(LOW, HIGH, -1), 5);
        due("raise of one", x.raise(0, 0, 100), 1);
        dueContent("after raises", x, MAP, LOW, 0, -5, 2, 0, 103, 5, Long.MAX_VALUE, HIGH, 4);
        due("raise that wraps", x.raise(5, HIGH, 1), 2);
        due("the value that wrapped", x.get(MAP, 5), Long.MIN_VALUE);
        x.put(6, 1);
        due("a key that came later is not raised", x.get(MAP, 6), 1);
        x.delete(5, 5);
        due("raise leaves keys away that are gone", x.raise(5, 6, 4), 1);
        due("has", x.has(MAP, 5), false);
        due("add behind a raise", x.add(6, 1), 6);
        due("most behind a raise", x.most(6, 5), 6);
        thrown(x, "raise(5, 4)", ARGUMENT, () -> x.raise(5, 4, 1));
        LazyPages full = fullOfKeys();
        due("raise of many", full.raise(10, 590, 1000), 581);
        due("sum", full.sum(MAP, LOW, HIGH), 599 * 300 + 581_000);
        LazyPages last = withMessages(2499);
        due("raise as the last message", last.raise(0, 9, 2), 10);
        thrown(last, "raise of one more", REFUSED, () -> last.raise(0, 299, 1));
        thrown(last, "raise of one more, (5, 4)", ARGUMENT, () -> last.raise(5, 4, 1));
    }

    private static void putAll() {
        LazyPages x = new LazyPages();
        due("putAll", x.putAll(10, -3, 5, 7, 4), 4);
        dueContent("after putAll", x, MAP, 1, 26, 4, 19, 7, 12, 10, 5);
        due("messages", x.total(0), 4);
        due("putAll of none", x.putAll(99, 1, 1, 1, 0), 0);
        due("putAll of one key", x.putAll(4, 0, 1, 10, 3), 3);
        due("the last value", x.get(MAP, 4), 21);
        due("messages", x.total(0), 7);
        LazyPages y = new LazyPages();
        due("putAll that wraps", y.putAll(HIGH, 2, Long.MAX_VALUE, 3, 2), 2);
        dueContent("after putAll that wraps", y, MAP, LOW + 1, Long.MIN_VALUE + 2, HIGH, Long.MAX_VALUE);
        due("putAll of far steps", y.putAll(0, LOW, 1, Long.MIN_VALUE, 300), 300);
        dueContent("after far steps", y, MAP, LOW, Long.MIN_VALUE + 1, LOW + 1, Long.MIN_VALUE + 2, 0, 1, HIGH, Long.MAX_VALUE);
        thrown(y, "putAll of -1", ARGUMENT, () -> y.putAll(0, 1, 0, 0, -1));
        thrown(y, "putAll of 301", ARGUMENT, () -> y.putAll(0, 1, 0, 0, 301));
        thrown(y, "putAll of very many", ARGUMENT, () -> y.putAll(0, 1, 0, 0, HIGH));
        LazyPages full = fullOfKeys();
        full.delete(598, 599);
        due("putAll up to the key that is refused", full.putAll(590, 3, -1, 0, 300), 5);
        due("messages", full.total(0), 606);
        due("the last accepted one", full.get(MAP, 602), -1);
        due("the first refused one", full.has(MAP, 605), false);
        due("putAll behind the refused one", full.putAll(605, -605, 1, 1, 2), 0);
        LazyPages last = withMessages(2497);
        due("putAll up to the last message", last.putAll(0, 1, 5, 5, 300), 3);
        due("putAll of one more", last.putAll(0, 1, 9, 9, 300), 0);
        thrown(last, "putAll of 301 at the last message", ARGUMENT, () -> last.putAll(0, 1, 0, 0, 301));
        due("sum", last.sum(MAP, LOW, HIGH), 30);
    }

    private static void has() {
        LazyPages x = with(LOW, 0, 4, 0, HIGH, 0);
        x.save(2);
        x.delete(4, 4);
        due("has", x.has(MAP, LOW) && x.has(MAP, HIGH) && x.has(2, 4), true);
        due("has not", x.has(MAP, 4) || x.has(MAP, 0) || x.has(2, 5) || x.has(2, LOW + 1), false);
        for (int view : NO_VIEWS) {
            thrown(x, "has of view " + view, INDEX, () -> x.has(view, 1));
        }
        thrown(x, "has of none", INDEX, () -> x.has(1, 1));
    }

    private static void get() {
        LazyPages x = with(LOW, 8, 4, Long.MIN_VALUE, HIGH, 9);
        x.save(3);
        x.put(4, 6);
        x.raise(HIGH, HIGH, 1);
        due("get", x.get(MAP, 4), 6);
        due("get of a view", x.get(3, 4), Long.MIN_VALUE);
        due("get at the ends", x.get(MAP, LOW) * 100 + x.get(MAP, HIGH), 810);
        due("get of a view at the ends", x.get(3, LOW) * 100 + x.get(3, HIGH), 809);
        due("get of no key", x.get(MAP, 5), 0);
        due("get of no key of a view", x.get(3, -5), 0);
        for (int view : NO_VIEWS) {
            thrown(x, "get of view " + view, INDEX, () -> x.get(view, 4));
        }
        thrown(x, "get of none", INDEX, () -> x.get(0, 4));
    }

    private static void count() {
        LazyPages x = fullOfKeys();
        x.save(0);
        x.delete(100, 399);
        due("count of all", x.count(MAP, LOW, HIGH), 300);
        due("count of all of a view", x.count(0, LOW, HIGH), 600);
        due("count", x.count(MAP, 99, 400), 2);
        due("count of a view", x.count(0, 99, 400), 302);
        due("count of one", x.count(MAP, 5, 5), 1);
        due("count of none", x.count(MAP, 100, 399), 0);
        due("count of the ends", x.count(MAP, LOW, LOW) + x.count(MAP, HIGH, HIGH), 0);
        thrown(x, "count(5, 4)", ARGUMENT, () -> x.count(MAP, 5, 4));
        thrown(x, "count(HIGH, LOW)", ARGUMENT, () -> x.count(0, HIGH, LOW));
        for (int view : NO_VIEWS) {
            thrown(x, "count of view " + view, INDEX, () -> x.count(view, 4, 5));
            thrown(x, "count(5, 4) of view " + view, INDEX, () -> x.count(view, 5, 4));
        }
        thrown(x, "count(5, 4) of none", INDEX, () -> x.count(1, 5, 4));
    }

    private static void sum() {
        LazyPages x = with(LOW, 1, -1, Long.MAX_VALUE, 0, 10, 1, 100, HIGH, 1000);
        x.save(1);
        x.raise(0, HIGH, 1);
        due("sum", x.sum(MAP, 0, 1), 112);
        due("sum of a view", x.sum(1, 0, 1), 110);
        due("sum of the ends", x.sum(MAP, LOW, LOW) + x.sum(MAP, HIGH, HIGH), 1002);
        due("sum of none", x.sum(MAP, 2, 999), 0);
        due("sum that wraps", x.sum(1, -1, 0), Long.MIN_VALUE + 9);
        due("sum of all", x.sum(1, LOW, HIGH), Long.MIN_VALUE + 1110);
        thrown(x, "sum(5, 4)", ARGUMENT, () -> x.sum(MAP, 5, 4));
        for (int view : NO_VIEWS) {
            thrown(x, "sum of view " + view, INDEX, () -> x.sum(view, 4, 5));
            thrown(x, "sum(5, 4) of view " + view, INDEX, () -> x.sum(view, 5, 4));
        }
        thrown(x, "sum(5, 4) of none", INDEX, () -> x.sum(0, 5, 4));
    }

    private static void key() {
        LazyPages x = with(LOW, 1, -7, 1, 3, 1, HIGH, 1);
        x.save(0);
        x.delete(-7, -7);
        due("key 0", x.key(MAP, LOW, 0), LOW);
        due("key 1", x.key(MAP, LOW, 1), 3);
        due("key 1 of a view", x.key(0, LOW, 1), -7);
        due("key from itself", x.key(MAP, 3, 0), 3);
        due("key from above it", x.key(MAP, 4, 0), HIGH);
        due("the last key", x.key(MAP, LOW, 2), HIGH);
        due("the last key from the end", x.key(MAP, HIGH, 0), HIGH);
        thrown(x, "one key too far", ARGUMENT, () -> x.key(MAP, LOW, 3));
        thrown(x, "one key too far from 4", ARGUMENT, () -> x.key(MAP, 4, 1));
        thrown(x, "key -1", ARGUMENT, () -> x.key(MAP, 3, -1));
        thrown(x, "key LOW", ARGUMENT, () -> x.key(0, 3, LOW));
        thrown(x, "key HIGH", ARGUMENT, () -> x.key(0, LOW, HIGH));
        for (int view : NO_VIEWS) {
            thrown(x, "key of view " + view, INDEX, () -> x.key(view, LOW, 0));
            thrown(x, "key -1 of view " + view, INDEX, () -> x.key(view, LOW, -1));
        }
        thrown(x, "key -1 of none", INDEX, () -> x.key(3, LOW, -1));
        LazyPages full = fullOfKeys();
        for (int i = 0; i < 600; i += 37) {
            due("key " + i, full.key(MAP, i / 2, i - i / 2), i);
        }
    }

    private static void save() {
        LazyPages x = with(1, 10, 2, 20);
        x.save(0);
        x.raise(1, 2, 1);
        x.save(3);
        x.delete(1, 1);
        x.put(9, 9);
        dueContent("view 0", x, 0, 1, 10, 2, 20);
        dueContent("view 3", x, 3, 1, 11, 2, 21);
        due("views", x.total(2), 2);
        x.save(0);
        dueContent("view 0, saved anew", x, 0, 2, 21, 9, 9);
        dueContent("view 3, as it was", x, 3, 1, 11, 2, 21);
        due("views", x.total(2), 2);
        due("save is no message", x.total(0), 5);
        LazyPages empty = new LazyPages();
        empty.save(1);
        dueContent("an empty view", empty, 1);
        for (int view : NO_VIEWS) {
            thrown(x, "save of view " + view, INDEX, () -> x.save(view));
        }
        thrown(x, "save of the map", INDEX, () -> x.save(MAP));
    }

    private static void drop() {
        LazyPages x = with(1, 10);
        due("drop of none", x.drop(2), false);
        x.save(2);
        x.save(3);
        due("drop", x.drop(2), true);
        due("drop again", x.drop(2), false);
        due("views", x.total(2), 1);
        thrown(x, "get of what was dropped", INDEX, () -> x.get(2, 1));
        dueContent("the other view", x, 3, 1, 10);
        dueContent("the map", x, MAP, 1, 10);
        x.put(5, 5);
        x.save(2);
        dueContent("the view, saved anew", x, 2, 1, 10, 5, 5);
        due("drop is no message", x.total(0), 2);
        for (int view : NO_VIEWS) {
            thrown(x, "drop of view " + view, INDEX, () -> x.drop(view));
        }
        thrown(x, "drop of the map", INDEX, () -> x.drop(MAP));
    }

    private static void restore() {
        LazyPages x = with(LOW, 1, 2, 20, HIGH, 5);
        x.save(1);
        x.raise(LOW, 2, 7);
        x.put(3, 30);
        due("restore", x.restore(1), 9);
        dueContent("after restore", x, MAP, LOW, 1, 2, 20, HIGH, 5);
        x.add(2, 1);
        dueContent("the view is as it was", x, 1, LOW, 1, 2, 20, HIGH, 5);
        due("messages of a restore are not kept by themselves", x.crash(), 10);
        dueContent("after a crash", x, MAP);
        LazyPages empty = new LazyPages();
        empty.save(0);
        empty.put(1, 1);
        due("restore of an empty view", empty.restore(0), 2);
        dueContent("after restore of an empty view", empty, MAP);
        due("restore of an empty view into an empty map", empty.restore(0), 3);
        restoreAtTheLimits(x);
    }

    private static void restoreAtTheLimits(LazyPages x) {
        LazyPages full = fullOfKeys();
        full.save(0);
        full.delete(0, 299);
        full.putAll(1000, 1, 0, 0, 300);
        due("restore of all keys into the full map", full.restore(0), 601 + 901);
        due("differ", full.differ(0, MAP), 0);
        LazyPages some = withMessages(2199);
        some.save(0);
        due("restore up to the last message", some.restore(0), 2500);
        thrown(some, "restore of one more", REFUSED, () -> some.restore(0));
        thrown(some, "restore of none at the last message", INDEX, () -> some.restore(1));
        LazyPages more = withMessages(2200);
        more.save(0);
        more.save(1);
        thrown(more, "restore of one too many", REFUSED, () -> more.restore(0));
        for (int view : NO_VIEWS) {
            thrown(x, "restore of view " + view, INDEX, () -> x.restore(view));
        }
        thrown(x, "restore of the map", INDEX, () -> x.restore(MAP));
        thrown(x, "restore of none", INDEX, () -> x.restore(0));
    }

    private static void differ() {
        LazyPages x = with(1, 10, 2, 0, 3, 30);
        x.save(0);
        due("differ from what is the same", x.differ(0, MAP), 0);
        x.delete(2, 2);
        due("a value of 0 is not the same as no key", x.differ(0, MAP), 1);
        due("and the other way round", x.differ(MAP, 0), 1);
        x.add(3, 1);
        x.put(8, 0);
        x.put(LOW, 0);
        x.put(HIGH, 0);
        due("differ", x.differ(0, MAP), 5);
        due("and the other way round", x.differ(MAP, 0), 5);
        x.save(1);
        due("differ of views", x.differ(0, 1), 5);
        due("differ from itself", x.differ(1, 1) + x.differ(MAP, MAP), 0);
        for (int view : NO_VIEWS) {
            thrown(x, "differ of view " + view, INDEX, () -> x.differ(view, MAP));
            thrown(x, "differ from view " + view, INDEX, () -> x.differ(MAP, view));
        }
        thrown(x, "differ of none", INDEX, () -> x.differ(2, 0));
        thrown(x, "differ from none", INDEX, () -> x.differ(0, 2));
        LazyPages full = fullOfKeys();
        full.save(0);
        full.delete(LOW, HIGH);
        full.putAll(600, 1, 0, 0, 300);
        due("differ of all", full.differ(0, MAP), 900);
    }

    private static void settle() {
        LazyPages x = fullOfKeys();
        x.raise(LOW, HIGH, 3);
        x.save(0);
        x.raise(50, 555, 4);
        x.delete(100, 110);
        x.put(105, 1);
        x.sync();
        x.raise(0, 599, 5);
        String before = state(x);
        x.settle();
        x.settle();
        due("settle changes nothing that shows", state(x).equals(before), true);
        due("isSound", x.isSound(), true);
        due("settle keeps nothing", x.crash(), 1);
        due("a value after a crash", x.get(MAP, 60), 67);
        LazyPages empty = new LazyPages();
        empty.settle();
        dueContent("settle of an empty map", empty, MAP);
    }

    private static void keeping(boolean bySync) {
        LazyPages x = new LazyPages();
        due("nothing to keep", bySync ? x.sync() : x.checkpoint(), 0);
        x.putAll(0, 1, 0, 1, 4);
        due("four to keep", bySync ? x.sync() : x.checkpoint(), 4);
        due("kept", x.total(1), 4);
        due("nothing more to keep", bySync ? x.sync() : x.checkpoint(), 0);
        due("nor in the other way", bySync ? x.checkpoint() : x.sync(), 0);
        x.raise(1, 2, 10);
        x.delete(0, 0);
        x.save(0);
        due("two to keep", bySync ? x.sync() : x.checkpoint(), 2);
        due("kept", x.total(1), 6);
        due("messages", x.total(0), 6);
        due("views stay", x.total(2), 1);
        x.raise(LOW, HIGH, 1000);
        x.put(77, 7);
        due("two are lost", x.crash(), 2);
        dueContent("what was kept comes again", x, MAP, 1, 11, 2, 12, 3, 3);
        due("kept", x.total(1), 6);
        x.save(1);
        x.put(3, 99);
        x.restore(1);
        due("five to keep", bySync ? x.sync() : x.checkpoint(), 5);
        due("nothing is lost", x.crash(), 0);
        dueContent("what a restore made comes again", x, MAP, 1, 11, 2, 12, 3, 3);
    }

    private static void crash() {
        LazyPages x = new LazyPages();
        x.put(1, 1);
        x.save(0);
        x.save(3);
        due("all is lost", x.crash(), 1);
        dueContent("nothing was kept", x, MAP);
        due("views", x.total(2), 0);
        due("messages", x.total(0), 0);
        thrown(x, "get of a lost view", INDEX, () -> x.get(0, 1));
        due("drop of a lost view", x.drop(3), false);
        due("messages begin again", x.put(2, 2), 1);
        x.sync();
        x.put(3, 3);
        x.checkpoint();
        x.put(4, 4);
        due("one is lost", x.crash(), 1);
        due("nothing is lost", x.crash(), 0);
        dueContent("what was kept", x, MAP, 2, 2, 3, 3);
        LazyPages last = withMessages(2000);
        last.sync();
        last.putAll(0, 1, 1, 1, 300);
        last.putAll(0, 1, 1, 1, 300);
        due("500 are lost", last.crash(), 500);
        due("there is room again", last.putAll(0, 1, 1, 1, 300), 300);
        LazyPages full = fullOfKeys();
        full.crash();
        due("there is room for keys again", full.putAll(9000, 1, 0, 0, 300), 300);
        due("keys", full.count(MAP, LOW, HIGH), 300);
    }

    private static void total() {
        LazyPages x = withMessages(10);
        x.sync();
        x.raise(0, 5, 1);
        x.save(0);
        x.save(2);
        x.save(3);
        due("messages", x.total(0), 11);
        due("kept", x.total(1), 10);
        due("views", x.total(2), 3);
        for (int what : new int[] {-1, 3, LOW, HIGH}) {
            thrown(x, "total of " + what, ARGUMENT, () -> x.total(what));
        }
    }

    private static void isSound() {
        LazyPages x = new LazyPages();
        for (int i = 0; i < 22; i++) {
            x.putAll(i * 1_000_003, 7 - i, i, 1, 110);
            due("isSound after putAll " + i, x.isSound(), true);
            x.raise(i * 1000, i * 100_000, 5);
            x.save(i % 4);
            x.delete(LOW, i * 1_000_003);
            due("isSound after delete " + i, x.isSound(), true);
            if (i % 7 == 0) {
                x.sync();
            }
            if (i % 5 == 0) {
                x.crash();
            }
            due("isSound at " + i, x.isSound(), true);
        }
    }

    public static void main(String[] args) {
        Runnable[] promises = {PromisesTest::newObject, PromisesTest::put, PromisesTest::add, PromisesTest::most,
            PromisesTest::delete, PromisesTest::raise, PromisesTest::putAll, PromisesTest::has, PromisesTest::get,
            PromisesTest::count, PromisesTest::sum, PromisesTest::key, PromisesTest::save, PromisesTest::drop,
            PromisesTest::restore, PromisesTest::differ, PromisesTest::settle, () -> keeping(true),
            () -> keeping(false), PromisesTest::crash, PromisesTest::total, PromisesTest::isSound};
        for (Runnable test : promises) {
            promise++;
            test.run();
        }
        due("promises", promise, 22);
        System.out.println(wrong == 0 ? "all answers are as due" : wrong + " answers are not as due");
        System.exit(wrong == 0 ? 0 : 1);
    }
}
