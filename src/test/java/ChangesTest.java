import java.util.function.ObjLongConsumer;

/** Promises 1 to 7, a new object and what changes it: a test for each sentence, at its boundaries. */
public final class ChangesTest {
    private static final int LOW = Checks.LOW;
    private static final int HIGH = Checks.HIGH;
    private static final int MAP = Checks.MAP;

    private static void anEmptyMap() {
        LazyPages x = new LazyPages();
        Checks.due("keys", x.count(MAP, LOW, HIGH), 0);
        Checks.due("sum", x.sum(MAP, LOW, HIGH), 0);
        Checks.due("messages", x.total(0), 0);
        Checks.due("has", x.has(MAP, 0), false);
        Checks.wrongArgument(x, "key 0", () -> x.key(MAP, LOW, 0));
        Checks.due("isSound", x.isSound(), true);
        LazyPages other = new LazyPages();
        x.put(1, 1);
        Checks.due("keys of another object", other.count(MAP, LOW, HIGH), 0);
        Checks.due("messages of another object", other.total(0), 0);
    }

    private static void noViews() {
        LazyPages x = new LazyPages();
        Checks.due("views", x.total(2), 0);
        for (int view = 0; view < 4; view++) {
            int none = view;
            Checks.wrongView(x, "count of view " + view, () -> x.count(none, LOW, HIGH));
        }
        LazyPages other = new LazyPages();
        other.save(0);
        Checks.due("views beside another object", x.total(2), 0);
    }

    private static void nothingKept() {
        LazyPages x = new LazyPages();
        Checks.due("kept", x.total(1), 0);
        Checks.due("crash", x.crash(), 0);
        x.put(1, 1);
        Checks.due("crash after one message", x.crash(), 1);
        Checks.dueContent("after the crash", x, MAP);
    }

    private static void putAnswersTheMessages() {
        LazyPages x = new LazyPages();
        Checks.due("the first", x.put(5, 7), 1);
        Checks.due("the same again", x.put(5, 7), 2);
        Checks.due("another key", x.put(LOW, 0), 3);
        x.delete(6, 9);
        x.raise(6, 9, 1);
        Checks.due("behind messages that met no key", x.put(HIGH, 0), 6);
        LazyPages last = Checks.withMessages(2498);
        Checks.due("the last but one", last.put(1, 1), 2499);
        Checks.due("the last one", last.put(1000, 1), 2500);
    }

    /** Both causes of a refusal, with the last call before it. */
    private static void refusesOneTooMany(String name, ObjLongConsumer<LazyPages> toKey) {
        LazyPages keys = Checks.withKeys(599);
        toKey.accept(keys, 599);
        Checks.due(name + " of the 600th key", keys.has(MAP, 599), true);
        Checks.refused(keys, name + " of the 601st key", () -> toKey.accept(keys, 600));
        Checks.refused(keys, name + " of the 601st key, below all", () -> toKey.accept(keys, LOW));
        toKey.accept(keys, 0);
        Checks.due(name + " of a key that is there", keys.total(0), 601);
        LazyPages messages = Checks.withMessages(2499);
        toKey.accept(messages, 300);
        Checks.due(name + " of message 2500", messages.total(0), 2500);
        Checks.refused(messages, name + " of message 2501", () -> toKey.accept(messages, 301));
        Checks.refused(messages, name + " of message 2501 to a key that is there", () -> toKey.accept(messages, 0));
        LazyPages both = Checks.withKeys(600);
        for (int i = 0; i < 6; i++) {
            both.putAll(0, 1, 0, 1, 300);
        }
        both.putAll(0, 1, 0, 1, 99);
        Checks.refused(both, name + " of the 601st key as message 2500", () -> toKey.accept(both, 600));
        toKey.accept(both, 0);
        Checks.refused(both, name + " of the 601st key as message 2501", () -> toKey.accept(both, 600));
    }

    private static void putIsRefused() {
        refusesOneTooMany("put", (x, key) -> x.put((int) key, 5));
    }

    private static void addAnswersTheValue() {
        LazyPages x = new LazyPages();
        Checks.due("to none", x.add(3, 4), 4);
        Checks.due("to a value", x.add(3, -9), -5);
        Checks.due("0 to a value", x.add(3, 0), -5);
        Checks.due("back to 0", x.add(3, 5), 0);
        Checks.due("a value of 0 is there", x.has(MAP, 3), true);
        x.put(3, Long.MAX_VALUE);
        Checks.due("beyond the greatest", x.add(3, 1), Long.MIN_VALUE);
        x.raise(3, 3, 2);
        Checks.due("to a value that was raised", x.add(3, 3), Long.MIN_VALUE + 5);
        Checks.due("messages", x.total(0), 8);
        Checks.dueContent("the key", x, MAP, 3, Long.MIN_VALUE + 5);
    }

    private static void addIsRefused() {
        refusesOneTooMany("add", (x, key) -> x.add((int) key, 5));
    }

    private static void mostAnswersTheValue() {
        LazyPages x = new LazyPages();
        Checks.due("of none", x.most(3, -4), -4);
        Checks.due("one below", x.most(3, -5), -4);
        Checks.due("the same", x.most(3, -4), -4);
        Checks.due("one above", x.most(3, -3), -3);
        Checks.due("messages, also of those that changed no value", x.total(0), 4);
        Checks.dueContent("the key", x, MAP, 3, -3);
    }

    private static void mostIsRefused() {
        refusesOneTooMany("most", (x, key) -> x.most((int) key, 5));
    }

    private static void deleteAnswersTheKeys() {
        LazyPages x = new LazyPages();
        Checks.due("of an empty map", x.delete(LOW, HIGH), 0);
        x.putAll(10, 10, 1, 1, 5);
        Checks.due("between two keys", x.delete(11, 19), 0);
        Checks.due("up to a key", x.delete(11, 20), 1);
        Checks.due("from a key", x.delete(30, 39), 1);
        Checks.due("below all", x.delete(LOW, 9), 0);
        Checks.due("above all", x.delete(51, HIGH), 0);
        Checks.due("all", x.delete(LOW, HIGH), 3);
        Checks.due("all again", x.delete(LOW, HIGH), 0);
        Checks.due("each was a message", x.total(0), 13);
        LazyPages full = Checks.withKeys(600);
        Checks.due("all but one of 600", full.delete(1, 599), 599);
        Checks.due("the last one", full.delete(0, 0), 1);
        LazyPages again = Checks.withKeys(600);
        Checks.due("all 600", again.delete(LOW, HIGH), 600);
        Checks.due("and room for keys again", again.putAll(-5, 1, 0, 0, 300), 300);
    }

    private static void deleteOfARange() {
        Checks.onlyRanges("delete", (x, from, to) -> x.delete(from, to));
    }

    private static void deleteIsRefused() {
        LazyPages last = Checks.withMessages(2499);
        Checks.due("as message 2500", last.delete(0, 9), 10);
        Checks.refused(last, "delete as message 2501", () -> last.delete(10, 10));
        Checks.refused(last, "delete of no key as message 2501", () -> last.delete(0, 9));
        Checks.due("keys that stay", last.count(MAP, LOW, HIGH), 290);
    }

    private static void raiseAnswersTheValues() {
        LazyPages x = new LazyPages();
        Checks.due("in an empty map", x.raise(LOW, HIGH, 1), 0);
        x.putAll(10, 10, 1, 1, 5);
        Checks.due("between two keys", x.raise(11, 19, 1), 0);
        Checks.due("up to a key", x.raise(11, 20, 1), 1);
        Checks.due("from a key", x.raise(30, 39, 1), 1);
        Checks.due("below all", x.raise(LOW, 9, 1), 0);
        Checks.due("above all", x.raise(51, HIGH, 1), 0);
        Checks.due("all", x.raise(LOW, HIGH, 1), 5);
        Checks.due("each was a message", x.total(0), 12);
        Checks.dueContent("the values", x, MAP, 10, 2, 20, 4, 30, 5, 40, 5, 50, 6);
        LazyPages full = Checks.withKeys(600);
        Checks.due("all but one of 600", full.raise(1, 599, 1), 599);
        Checks.due("all 600", full.raise(LOW, HIGH, 1), 600);
    }

    private static void raiseByZero() {
        LazyPages x = Checks.with(1, 10, 2, 0, 4, -3);
        Checks.due("by 0, of all", x.raise(LOW, HIGH, 0), 3);
        Checks.due("by 0, of one", x.raise(2, 3, 0), 1);
        Checks.due("by 0, of none", x.raise(3, 3, 0), 0);
        Checks.due("each was a message", x.total(0), 6);
        Checks.dueContent("the values", x, MAP, 1, 10, 2, 0, 4, -3);
    }

    private static void raiseOfARange() {
        Checks.onlyRanges("raise", (x, from, to) -> x.raise(from, to, 1));
    }

    private static void raiseIsRefused() {
        LazyPages last = Checks.withMessages(2499);
        Checks.due("as message 2500", last.raise(0, 9, 2), 10);
        Checks.refused(last, "raise as message 2501", () -> last.raise(0, 9, 2));
        Checks.refused(last, "raise of no key as message 2501", () -> last.raise(900, 900, 2));
        Checks.refused(last, "raise by 0 as message 2501", () -> last.raise(0, 9, 0));
        Checks.due("sum", last.sum(MAP, LOW, HIGH), 20);
    }

    private static void putAllOfNKeys() {
        LazyPages x = new LazyPages();
        Checks.due("no key", x.putAll(10, 3, 5, 7, 0), 0);
        Checks.dueContent("no key", x, MAP);
        Checks.due("one key", x.putAll(10, 3, 5, 7, 1), 1);
        Checks.dueContent("one key", x, MAP, 10, 5);
        Checks.due("rising keys", x.putAll(11, 3, 5, 7, 3), 3);
        Checks.dueContent("rising keys", x, MAP, 10, 5, 11, 5, 14, 12, 17, 19);
        Checks.due("falling keys, values that are there", x.putAll(17, -3, 1, -2, 3), 3);
        Checks.dueContent("falling keys", x, MAP, 10, 5, 11, -3, 14, -1, 17, 1);
        Checks.due("messages", x.total(0), 7);
        LazyPages many = new LazyPages();
        Checks.due("300 keys", many.putAll(-150, 1, 1, 2, 300), 300);
        Checks.due("300 keys are there", many.count(MAP, -150, 149), 300);
        Checks.due("the last value", many.get(MAP, 149), 599);
        Checks.due("the sum", many.sum(MAP, LOW, HIGH), 300 * 300);
    }

    private static void putAllOfOneKey() {
        LazyPages x = new LazyPages();
        Checks.due("step 0", x.putAll(4, 0, 1, 10, 300), 300);
        Checks.dueContent("the last value stays", x, MAP, 4, 2991);
        Checks.due("messages", x.total(0), 300);
        LazyPages full = Checks.withKeys(600);
        Checks.due("step 0 in a full map", full.putAll(599, 0, 1, 1, 300), 300);
    }

    private static void putAllWrapsKeys() {
        LazyPages up = new LazyPages();
        Checks.due("up to the highest and beyond", up.putAll(HIGH - 1, 1, 1, 1, 4), 4);
        Checks.dueContent("beyond the highest", up, MAP, LOW, 3, LOW + 1, 4, HIGH - 1, 1, HIGH, 2);
        LazyPages down = new LazyPages();
        Checks.due("down to the lowest and beyond", down.putAll(LOW + 1, -1, 1, 1, 4), 4);
        Checks.dueContent("beyond the lowest", down, MAP, LOW, 2, LOW + 1, 1, HIGH - 1, 4, HIGH, 3);
        LazyPages far = new LazyPages();
        Checks.due("a step of the lowest", far.putAll(1, LOW, 1, 1, 5), 5);
        Checks.dueContent("a step of the lowest", far, MAP, LOW + 1, 4, 1, 5);
        LazyPages farther = new LazyPages();
        Checks.due("a step of the highest", farther.putAll(0, HIGH, 1, 1, 4), 4);
        Checks.dueContent("a step of the highest", farther, MAP, -2, 3, 0, 1, HIGH - 2, 4, HIGH, 2);
    }

    private static void putAllWrapsValues() {
        LazyPages x = new LazyPages();
        x.putAll(1, 1, Long.MAX_VALUE - 1, 1, 3);
        Checks.dueContent("beyond the greatest", x, MAP, 1, Long.MAX_VALUE - 1, 2, Long.MAX_VALUE, 3, Long.MIN_VALUE);
        x.putAll(1, 1, Long.MIN_VALUE + 1, -1, 3);
        Checks.dueContent("beyond the least", x, MAP, 1, Long.MIN_VALUE + 1, 2, Long.MIN_VALUE, 3, Long.MAX_VALUE);
        x.putAll(1, 1, 5, Long.MIN_VALUE, 3);
        Checks.dueContent("growing by the least", x, MAP, 1, 5, 2, Long.MIN_VALUE + 5, 3, 5);
    }

    private static void putAllUpToAKeyTooMany() {
        LazyPages x = Checks.withKeys(598);
        Checks.due("two keys fit", x.putAll(590, 5, -1, 0, 300), 4);
        Checks.due("keys", x.count(MAP, LOW, HIGH), 600);
        Checks.due("messages", x.total(0), 602);
        Checks.due("the last one that was accepted", x.get(MAP, 605), -1);
        Checks.due("the first one that was refused", x.has(MAP, 610), false);
        Checks.due("one that is there behind one that is refused", x.putAll(606, -1, -2, 0, 2), 0);
        Checks.due("it has the value that it had", x.get(MAP, 605), -1);
        Checks.due("the other way round", x.putAll(605, 1, -2, 0, 2), 1);
        Checks.due("it has the new value", x.get(MAP, 605), -2);
        Checks.due("messages", x.total(0), 603);
        LazyPages y = Checks.withKeys(300);
        Checks.due("300 keys that just fit", y.putAll(300, 1, 0, 0, 300), 300);
        LazyPages z = Checks.withKeys(301);
        Checks.due("300 keys of which one is too many", z.putAll(301, 1, 0, 0, 300), 299);
    }

    private static void putAllUpToAMessageTooMany() {
        LazyPages x = Checks.withMessages(2200);
        Checks.due("300 messages that just fit", x.putAll(0, 1, 5, 0, 300), 300);
        Checks.due("no message fits", x.putAll(0, 1, 6, 0, 300), 0);
        Checks.due("nor one", x.putAll(0, 1, 6, 0, 1), 0);
        Checks.due("nor is one asked for", x.putAll(0, 1, 6, 0, 0), 0);
        Checks.due("sum", x.sum(MAP, LOW, HIGH), 1500);
        LazyPages y = Checks.withMessages(2201);
        Checks.due("300 messages of which one is too many", y.putAll(0, 1, 5, 0, 300), 299);
        Checks.due("messages", y.total(0), 2500);
        Checks.due("the last one that was accepted", y.get(MAP, 298), 5);
        Checks.due("the first one that was refused", y.get(MAP, 299), 0);
    }

    private static void putAllOf0To300() {
        LazyPages x = Checks.with(1, 10);
        for (int n : new int[] {-1, 301, LOW, HIGH}) {
            Checks.wrongArgument(x, "putAll of " + n, () -> x.putAll(5, 1, 5, 1, n));
        }
        Checks.due("0", x.putAll(5, 1, 5, 1, 0), 0);
        Checks.due("1", x.putAll(5, 1, 5, 1, 1), 1);
        Checks.due("299", x.putAll(5, 1, 5, 1, 299), 299);
        Checks.due("300", x.putAll(5, 1, 5, 1, 300), 300);
        LazyPages last = Checks.withMessages(2500);
        Checks.wrongArgument(last, "putAll of -1 at the last message", () -> last.putAll(0, 1, 0, 0, -1));
        Checks.wrongArgument(last, "putAll of 301 at the last message", () -> last.putAll(0, 1, 0, 0, 301));
        LazyPages full = Checks.withKeys(600);
        Checks.wrongArgument(full, "putAll of 301 in a full map", () -> full.putAll(600, 1, 0, 0, 301));
    }

    public static void main(String[] args) {
        Checks.sentence("Promise 1: A new object", "An empty map", ChangesTest::anEmptyMap);
        Checks.sentence("Promise 1: A new object", "no views", ChangesTest::noViews);
        Checks.sentence("Promise 1: A new object", "nothing kept", ChangesTest::nothingKept);
        Checks.sentence("Promise 2: put", "PUT: how many messages there are", ChangesTest::putAnswersTheMessages);
        Checks.sentence("Promise 2: put", "UnsupportedOperationException: refused", ChangesTest::putIsRefused);
        Checks.sentence("Promise 3: add", "ADD: the value that the key has then", ChangesTest::addAnswersTheValue);
        Checks.sentence("Promise 3: add", "UnsupportedOperationException: refused", ChangesTest::addIsRefused);
        Checks.sentence("Promise 4: most", "MOST: the value that the key has then", ChangesTest::mostAnswersTheValue);
        Checks.sentence("Promise 4: most", "UnsupportedOperationException: refused", ChangesTest::mostIsRefused);
        Checks.sentence("Promise 5: delete", "DELETE: how many keys went", ChangesTest::deleteAnswersTheKeys);
        Checks.sentence("Promise 5: delete", "IllegalArgumentException: from is above to", ChangesTest::deleteOfARange);
        Checks.sentence("Promise 5: delete", "UnsupportedOperationException: refused", ChangesTest::deleteIsRefused);
        Checks.sentence("Promise 6: raise", "RAISE: how many values changed", ChangesTest::raiseAnswersTheValues);
        Checks.sentence("Promise 6: raise", "of those that were there, also by 0", ChangesTest::raiseByZero);
        Checks.sentence("Promise 6: raise", "IllegalArgumentException: from is above to", ChangesTest::raiseOfARange);
        Checks.sentence("Promise 6: raise", "UnsupportedOperationException: refused", ChangesTest::raiseIsRefused);
        Checks.sentence("Promise 7: putAll", "PUT of n keys: key, key + step, ..", ChangesTest::putAllOfNKeys);
        Checks.sentence("Promise 7: putAll (a step of 0)", "PUT of n keys: key, key + step, ..", ChangesTest::putAllOfOneKey);
        Checks.sentence("Promise 7: putAll", "these as ints that wrap", ChangesTest::putAllWrapsKeys);
        Checks.sentence("Promise 7: putAll", "with value, value + grow, ..", ChangesTest::putAllWrapsValues);
        Checks.sentence("Promise 7: putAll (600 keys)", "how many were accepted, up to the first that is refused", ChangesTest::putAllUpToAKeyTooMany);
        Checks.sentence("Promise 7: putAll (2500 messages)", "how many were accepted, up to the first that is refused", ChangesTest::putAllUpToAMessageTooMany);
        Checks.sentence("Promise 7: putAll", "IllegalArgumentException: n is not 0 .. 300", ChangesTest::putAllOf0To300);
        Checks.end();
    }
}
