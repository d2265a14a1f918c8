/** Promises 13 to 16, views of the map as it was: a test for each sentence, at its boundaries. */
public final class ViewsTest {
    private static final int LOW = Checks.LOW;
    private static final int HIGH = Checks.HIGH;
    private static final int MAP = Checks.MAP;

    private static void saveTheMapAsItIs() {
        LazyPages x = Checks.with(1, 10, 2, 20);
        x.save(0);
        x.raise(1, 2, 1);
        x.save(3);
        x.delete(1, 1);
        x.put(9, 9);
        Checks.dueContent("view 0", x, 0, 1, 10, 2, 20);
        Checks.dueContent("view 3", x, 3, 1, 11, 2, 21);
        x.save(0);
        Checks.dueContent("view 0, saved anew", x, 0, 2, 21, 9, 9);
        Checks.dueContent("view 3, as it was", x, 3, 1, 11, 2, 21);
        Checks.due("views", x.total(2), 2);
        Checks.due("save is no message", x.total(0), 5);
    }

    private static void saveEmptyAndFull() {
        LazyPages x = new LazyPages();
        x.save(1);
        Checks.due("an empty view is one", x.total(2), 1);
        x.putAll(0, 1, 0, 1, 300);
        x.putAll(300, 1, 300, 1, 300);
        Checks.dueContent("an empty view stays empty", x, 1);
        x.save(2);
        x.delete(LOW, HIGH);
        Checks.due("a full view, keys", x.count(2, LOW, HIGH), 600);
        Checks.due("a full view, sum", x.sum(2, LOW, HIGH), 599 * 300);
        x.save(2);
        Checks.dueContent("a full view becomes an empty one", x, 2);
        Checks.due("the view has its own room for keys", x.putAll(-300, 1, 0, 0, 300), 300);
    }

    private static void saveAtTheLastMessage() {
        LazyPages x = Checks.withMessages(2500);
        x.save(0);
        Checks.due("keys of the view", x.count(0, LOW, HIGH), 300);
        Checks.due("messages", x.total(0), 2500);
    }

    private static void saveOfAView() {
        Checks.onlyViewNumbers("save", (x, view) -> x.save(view));
    }

    private static void dropWhetherItWasOne() {
        LazyPages x = Checks.with(1, 10);
        for (int view = 0; view < 4; view++) {
            Checks.due("drop of view " + view + ", which was never saved", x.drop(view), false);
            x.save(view);
            Checks.due("drop of view " + view, x.drop(view), true);
            Checks.due("drop of view " + view + " again", x.drop(view), false);
        }
        x.save(2);
        x.save(2);
        Checks.due("drop of a view that was saved twice", x.drop(2), true);
        Checks.due("and again", x.drop(2), false);
        x.save(2);
        x.crash();
        Checks.due("drop of a view behind a crash", x.drop(2), false);
        LazyPages empty = new LazyPages();
        empty.save(0);
        Checks.due("drop of an empty view", empty.drop(0), true);
    }

    private static void dropMakesNone() {
        LazyPages x = Checks.with(1, 10);
        Checks.saveAll(x);
        x.drop(2);
        Checks.due("views", x.total(2), 3);
        Checks.wrongView(x, "get of what was dropped", () -> x.get(2, 1));
        Checks.wrongView(x, "restore of what was dropped", () -> x.restore(2));
        Checks.dueContent("the view below it", x, 1, 1, 10);
        Checks.dueContent("the view above it", x, 3, 1, 10);
        Checks.dueContent("the map", x, MAP, 1, 10);
        x.put(5, 5);
        x.save(2);
        Checks.dueContent("the view, saved anew", x, 2, 1, 10, 5, 5);
        Checks.due("drop is no message", x.total(0), 2);
    }

    private static void dropOfAView() {
        Checks.onlyViewNumbers("drop", (x, view) -> x.drop(view));
    }

    private static void restoreTheMap() {
        LazyPages x = Checks.with(LOW, 1, 2, 20, HIGH, 5);
        x.save(1);
        x.raise(LOW, 2, 7);
        x.put(3, 30);
        x.delete(HIGH, HIGH);
        x.restore(1);
        Checks.dueContent("the map", x, MAP, LOW, 1, 2, 20, HIGH, 5);
        x.add(2, 1);
        x.raise(LOW, HIGH, 100);
        Checks.dueContent("the view stays as it was", x, 1, LOW, 1, 2, 20, HIGH, 5);
        Checks.dueContent("the map goes on", x, MAP, LOW, 101, 2, 121, HIGH, 105);
        LazyPages full = Checks.withKeys(600);
        full.save(0);
        full.delete(0, 299);
        full.putAll(1000, 1, 0, 0, 300);
        Checks.due("600 other keys are there", full.count(MAP, LOW, HIGH), 600);
        full.restore(0);
        Checks.due("600 keys are as they were", full.differ(MAP, 0), 0);
        Checks.refused(full, "put of key 601", () -> full.put(1000, 1));
    }

    private static void restoreByMessages() {
        LazyPages x = Checks.with(1, 10, 2, 20);
        x.save(1);
        Checks.due("a DELETE and two PUTs, of what is there already", x.restore(1), 5);
        x.delete(LOW, HIGH);
        Checks.due("a DELETE of no key and two PUTs", x.restore(1), 9);
        Checks.due("messages", x.total(0), 9);
        Checks.due("none is kept by itself", x.total(1), 0);
        x.sync();
        x.restore(1);
        Checks.due("a DELETE and two PUTs are lost", x.crash(), 3);
        LazyPages empty = new LazyPages();
        empty.save(0);
        Checks.due("a DELETE alone, of no key", empty.restore(0), 1);
        empty.put(1, 1);
        Checks.due("a DELETE alone, of one key", empty.restore(0), 3);
        Checks.dueContent("the empty map", empty, MAP);
        LazyPages full = Checks.withKeys(600);
        full.save(3);
        Checks.due("a DELETE and 600 PUTs", full.restore(3), 1201);
    }

    private static void restoreOfAView() {
        Checks.onlyViewNumbers("restore", (x, view) -> x.restore(view));
    }

    private static void restoreOfNone() {
        LazyPages x = Checks.with(1, 10);
        for (int view = 0; view < 4; view++) {
            int none = view;
            Checks.wrongView(x, "restore of view " + view + ", which is none", () -> x.restore(none));
        }
        Checks.saveAll(x);
        for (int view = 0; view < 4; view++) {
            Checks.due("restore of view " + view, x.restore(view), 3 + 2 * view);
        }
        x.crash();
        Checks.wrongView(x, "restore behind a crash", () -> x.restore(0));
    }

    private static void restoreOfTooMany() {
        LazyPages fits = Checks.withMessages(2199);
        fits.save(0);
        Checks.due("301 messages that just fit", fits.restore(0), 2500);
        Checks.refused(fits, "restore when no message fits", () -> fits.restore(0));
        LazyPages tooMany = Checks.withMessages(2200);
        tooMany.save(0);
        tooMany.save(1);
        tooMany.save(2);
        Checks.refused(tooMany, "restore of one message too many", () -> tooMany.restore(0));
        Checks.due("the map is as it was", tooMany.differ(MAP, 0), 0);
        LazyPages empty = new LazyPages();
        empty.save(0);
        for (int i = 0; i < 8; i++) {
            empty.putAll(0, 1, 0, 0, 300);
        }
        empty.putAll(0, 1, 0, 0, 99);
        Checks.due("a DELETE alone as message 2500", empty.restore(0), 2500);
        Checks.refused(empty, "a DELETE alone as message 2501", () -> empty.restore(0));
    }

    private static void differInOneAlone() {
        LazyPages x = Checks.with(1, 10, 2, 0);
        x.save(0);
        Checks.due("none", x.differ(0, MAP), 0);
        x.delete(2, 2);
        Checks.due("a key with the value 0 in one alone", x.differ(0, MAP), 1);
        Checks.due("the other way round", x.differ(MAP, 0), 1);
        x.put(LOW, 0);
        x.put(HIGH, 0);
        Checks.due("the lowest and the highest int too", x.differ(0, MAP), 3);
        Checks.due("the other way round", x.differ(MAP, 0), 3);
        LazyPages empty = new LazyPages();
        empty.save(0);
        empty.save(1);
        Checks.due("an empty view and an empty map", empty.differ(0, MAP), 0);
        Checks.due("two empty views", empty.differ(0, 1), 0);
        empty.putAll(0, 1, 0, 0, 300);
        Checks.due("an empty view and 300 keys", empty.differ(0, MAP), 300);
        LazyPages full = Checks.withKeys(600);
        full.save(0);
        full.delete(LOW, HIGH);
        full.putAll(600, 1, 0, 0, 300);
        full.putAll(900, 1, 0, 0, 300);
        Checks.due("600 keys and 600 others", full.differ(0, MAP), 1200);
        Checks.due("the other way round", full.differ(MAP, 0), 1200);
    }

    private static void differInValues() {
        LazyPages x = Checks.with(1, 10, 2, Long.MIN_VALUE, 3, 0);
        x.save(0);
        x.put(1, 10);
        Checks.due("the same value once more", x.differ(0, MAP), 0);
        x.add(1, 1);
        Checks.due("one more", x.differ(0, MAP), 1);
        x.add(2, Long.MIN_VALUE);
        Checks.due("values that differ in one bit alone", x.differ(0, MAP), 2);
        x.put(3, 1L << 32);
        Checks.due("values that differ in their upper half", x.differ(MAP, 0), 3);
        x.save(1);
        Checks.due("two views", x.differ(0, 1), 3);
        Checks.due("two views the other way round", x.differ(1, 0), 3);
        x.raise(1, 3, 0);
        Checks.due("raised by 0", x.differ(1, MAP), 0);
        x.raise(1, 3, 4);
        x.raise(1, 3, -4);
        Checks.due("raised and lowered again", x.differ(1, MAP), 0);
        x.raise(2, 2, 4);
        Checks.due("one of them raised", x.differ(1, MAP), 1);
        LazyPages full = Checks.withKeys(600);
        full.save(0);
        full.raise(LOW, HIGH, 1);
        Checks.due("600 values", full.differ(0, MAP), 600);
    }

    private static void differFromItself() {
        LazyPages x = Checks.with(1, 10, 2, 20);
        x.save(3);
        x.raise(1, 2, 1);
        Checks.due("the map", x.differ(MAP, MAP), 0);
        Checks.due("a view", x.differ(3, 3), 0);
    }

    private static void differOfViews() {
        Checks.onlyTheMapAndViews("differ", (x, view) -> x.differ(view, MAP));
        Checks.onlyTheMapAndViews("differ, as the other one,", (x, view) -> x.differ(MAP, view));
        Checks.onlyTheMapAndViews("differ from itself", (x, view) -> x.differ(view, view));
    }

    public static void main(String[] args) {
        Checks.sentence("Promise 13: save", "A view becomes the map as it is now", ViewsTest::saveTheMapAsItIs);
        Checks.sentence("Promise 13: save (empty and full)", "A view becomes the map as it is now", ViewsTest::saveEmptyAndFull);
        Checks.sentence("Promise 13: save (at the last message)", "A view becomes the map as it is now", ViewsTest::saveAtTheLastMessage);
        Checks.sentence("Promise 13: save", "IndexOutOfBoundsException: it is not 0 .. 3", ViewsTest::saveOfAView);
        Checks.sentence("Promise 14: drop", "whether it was one", ViewsTest::dropWhetherItWasOne);
        Checks.sentence("Promise 14: drop", "A view is none any more", ViewsTest::dropMakesNone);
        Checks.sentence("Promise 14: drop", "IndexOutOfBoundsException: it is not 0 .. 3", ViewsTest::dropOfAView);
        Checks.sentence("Promise 15: restore", "The map becomes what a view has", ViewsTest::restoreTheMap);
        Checks.sentence("Promise 15: restore", "by messages: a DELETE of all keys and PUTs of those of the view, by rising keys: how many messages there are", ViewsTest::restoreByMessages);
        Checks.sentence("Promise 15: restore", "IndexOutOfBoundsException: it is not 0 .. 3", ViewsTest::restoreOfAView);
        Checks.sentence("Promise 15: restore (none)", "IndexOutOfBoundsException: it is not 0 .. 3, or none", ViewsTest::restoreOfNone);
        Checks.sentence("Promise 15: restore", "UnsupportedOperationException: they would be too many", ViewsTest::restoreOfTooMany);
        Checks.sentence("Promise 16: differ", "How many keys in two views (or the map) are in one alone", ViewsTest::differInOneAlone);
        Checks.sentence("Promise 16: differ", "or have other values", ViewsTest::differInValues);
        Checks.sentence("Promise 16: differ (each with itself)", "How many keys in two views (or the map) are in one alone, or have other values", ViewsTest::differFromItself);
        Checks.sentence("Promise 16: differ", "IndexOutOfBoundsException", ViewsTest::differOfViews);
        Checks.end();
    }
}
