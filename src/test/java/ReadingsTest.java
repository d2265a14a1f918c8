/** Promises 8 to 12, what is read of the map and of views: a test for each sentence, at its boundaries. */
public final class ReadingsTest {
    private static final int LOW = Checks.LOW;
    private static final int HIGH = Checks.HIGH;
    private static final int MAP = Checks.MAP;

    /** View 2 has these five keys; the map has them too, but for 0, and the values are other ones there. */
    private static LazyPages some() {
        LazyPages x = Checks.with(LOW, 1, -1, Long.MAX_VALUE, 0, 0, 7, Long.MIN_VALUE, HIGH, -5);
        x.save(2);
        x.delete(0, 0);
        x.raise(LOW, HIGH, 1);
        return x;
    }

    private static void whetherAKeyIsThere() {
        LazyPages x = some();
        for (int key : new int[] {LOW, -1, 7, HIGH}) {
            Checks.due("key " + key + " of the map", x.has(MAP, key), true);
            Checks.due("key " + key + " of a view", x.has(2, key), true);
        }
        for (int key : new int[] {LOW + 1, -2, 1, 6, 8, HIGH - 1}) {
            Checks.due("no key " + key + " of the map", x.has(MAP, key), false);
            Checks.due("no key " + key + " of a view", x.has(2, key), false);
        }
        Checks.due("a key that went, in the map", x.has(MAP, 0), false);
        Checks.due("a key with the value 0, in a view", x.has(2, 0), true);
        Checks.due("of an empty map", new LazyPages().has(MAP, 0), false);
        LazyPages full = Checks.withKeys(600);
        Checks.due("below the first of 600", full.has(MAP, -1), false);
        Checks.due("the first of 600", full.has(MAP, 0), true);
        Checks.due("the last of 600", full.has(MAP, 599), true);
        Checks.due("above the last of 600", full.has(MAP, 600), false);
    }

    private static void hasOfAView() {
        Checks.onlyTheMapAndViews("has", (x, view) -> x.has(view, 1));
        Checks.onlyTheMapAndViews("has of no key", (x, view) -> x.has(view, 9));
    }

    private static void theValueOfAKey() {
        LazyPages x = some();
        Checks.due("the lowest key", x.get(MAP, LOW), 2);
        Checks.due("the highest key", x.get(MAP, HIGH), -4);
        Checks.due("a value that wrapped", x.get(MAP, -1), Long.MIN_VALUE);
        Checks.due("a value beside the least", x.get(MAP, 7), Long.MIN_VALUE + 1);
        Checks.due("the lowest key of a view", x.get(2, LOW), 1);
        Checks.due("the highest key of a view", x.get(2, HIGH), -5);
        Checks.due("the greatest value", x.get(2, -1), Long.MAX_VALUE);
        Checks.due("the least value", x.get(2, 7), Long.MIN_VALUE);
    }

    private static void zeroWhenItIsNotThere() {
        LazyPages x = some();
        for (int key : new int[] {LOW + 1, -2, 0, 6, 8, HIGH - 1}) {
            Checks.due("no key " + key + " of the map", x.get(MAP, key), 0);
            Checks.due("no key " + key + " of a view", x.get(2, key), 0);
        }
        Checks.due("of an empty map", new LazyPages().get(MAP, 0), 0);
    }

    private static void getOfAView() {
        Checks.onlyTheMapAndViews("get", (x, view) -> x.get(view, 1));
        Checks.onlyTheMapAndViews("get of no key", (x, view) -> x.get(view, 9));
    }

    private static void howManyKeys() {
        LazyPages x = some();
        Checks.due("all of the map", x.count(MAP, LOW, HIGH), 4);
        Checks.due("all of a view", x.count(2, LOW, HIGH), 5);
        Checks.due("from a key to a key", x.count(2, -1, 7), 3);
        Checks.due("not the lower end", x.count(2, 0, 7), 2);
        Checks.due("not the upper end", x.count(2, -1, 6), 2);
        Checks.due("neither end", x.count(MAP, 0, 6), 0);
        Checks.due("one key", x.count(MAP, 7, 7), 1);
        Checks.due("one that is not there", x.count(MAP, 8, 8), 0);
        Checks.due("the lowest int", x.count(MAP, LOW, LOW), 1);
        Checks.due("the highest int", x.count(MAP, HIGH, HIGH), 1);
        Checks.due("all but the lowest and the highest int", x.count(MAP, LOW + 1, HIGH - 1), 2);
        Checks.due("of an empty map", new LazyPages().count(MAP, LOW, HIGH), 0);
        LazyPages full = Checks.withKeys(600);
        Checks.due("all 600", full.count(MAP, 0, 599), 600);
        Checks.due("all but the first and the last", full.count(MAP, 1, 598), 598);
    }

    private static void countOfAView() {
        Checks.onlyTheMapAndViews("count", (x, view) -> x.count(view, 1, 2));
        Checks.onlyTheMapAndViews("count of no key", (x, view) -> x.count(view, 8, 9));
    }

    private static void countOfARange() {
        Checks.onlyRanges("count", (x, from, to) -> x.count(MAP, from, to));
        LazyPages x = some();
        Checks.wrongArgument(x, "count(7, 6) of a view", () -> x.count(2, 7, 6));
    }

    private static void theSumOfValues() {
        LazyPages x = Checks.with(LOW, 1, -1, 10, 0, 100, 7, 1000, HIGH, 10_000);
        x.save(0);
        x.raise(0, HIGH, 1);
        Checks.due("all of the map", x.sum(MAP, LOW, HIGH), 11_114);
        Checks.due("all of a view", x.sum(0, LOW, HIGH), 11_111);
        Checks.due("from a key to a key", x.sum(0, -1, 7), 1110);
        Checks.due("not the lower end", x.sum(0, 0, 7), 1100);
        Checks.due("not the upper end", x.sum(0, -1, 6), 110);
        Checks.due("neither end", x.sum(MAP, 1, 6), 0);
        Checks.due("one key", x.sum(MAP, 7, 7), 1001);
        Checks.due("one that is not there", x.sum(MAP, 8, 8), 0);
        Checks.due("the lowest int", x.sum(MAP, LOW, LOW), 1);
        Checks.due("the highest int", x.sum(MAP, HIGH, HIGH), 10_001);
        Checks.due("all but the lowest and the highest int", x.sum(MAP, LOW + 1, HIGH - 1), 1112);
        Checks.due("of an empty map", new LazyPages().sum(MAP, LOW, HIGH), 0);
        LazyPages full = Checks.withKeys(600);
        Checks.due("all 600", full.sum(MAP, 0, 599), 599 * 300);
        Checks.due("all but the first and the last", full.sum(MAP, 1, 598), 599 * 299);
    }

    private static void sumWraps() {
        LazyPages x = Checks.with(1, Long.MAX_VALUE, 2, 0, 3, 1, 4, Long.MIN_VALUE, 5, -1);
        Checks.due("the greatest", x.sum(MAP, 1, 2), Long.MAX_VALUE);
        Checks.due("beyond the greatest", x.sum(MAP, 1, 3), Long.MIN_VALUE);
        Checks.due("and back to 0", x.sum(MAP, 1, 4), 0);
        Checks.due("the least and 1", x.sum(MAP, 3, 4), Long.MIN_VALUE + 1);
        Checks.due("beyond the least", x.sum(MAP, 4, 5), Long.MAX_VALUE);
        x.save(1);
        Checks.due("beyond the greatest in a view", x.sum(1, 1, 3), Long.MIN_VALUE);
        LazyPages many = new LazyPages();
        many.putAll(0, 1, Long.MAX_VALUE, 0, 300);
        Checks.due("300 of the greatest", many.sum(MAP, LOW, HIGH), -300);
    }

    private static void sumOfAView() {
        Checks.onlyTheMapAndViews("sum", (x, view) -> x.sum(view, 1, 2));
        Checks.onlyTheMapAndViews("sum of no key", (x, view) -> x.sum(view, 8, 9));
    }

    private static void sumOfARange() {
        Checks.onlyRanges("sum", (x, from, to) -> x.sum(MAP, from, to));
        LazyPages x = some();
        Checks.wrongArgument(x, "sum(7, 6) of a view", () -> x.sum(2, 7, 6));
    }

    private static void theKthKey() {
        LazyPages x = some();
        int[] map = {LOW, -1, 7, HIGH};
        for (int k = 0; k < map.length; k++) {
            Checks.due("key " + k + " of the map", x.key(MAP, LOW, k), map[k]);
        }
        int[] view = {LOW, -1, 0, 7, HIGH};
        for (int k = 0; k < view.length; k++) {
            Checks.due("key " + k + " of a view", x.key(2, LOW, k), view[k]);
        }
        LazyPages full = Checks.withKeys(600);
        for (int k = 0; k < 600; k += 7) {
            Checks.due("key " + k + " of 600", full.key(MAP, LOW, k), k);
            Checks.due("key " + k + " of 600, from the middle", full.key(MAP, k / 2, k - k / 2), k);
        }
        Checks.due("the last of 600", full.key(MAP, LOW, 599), 599);
    }

    private static void notBelowFrom() {
        LazyPages x = some();
        Checks.due("one below a key", x.key(MAP, 6, 0), 7);
        Checks.due("a key itself", x.key(MAP, 7, 0), 7);
        Checks.due("one above a key", x.key(MAP, 8, 0), HIGH);
        Checks.due("the highest int", x.key(MAP, HIGH, 0), HIGH);
        Checks.due("one above the lowest int", x.key(MAP, LOW + 1, 0), -1);
        Checks.due("the second one from a key", x.key(2, -1, 1), 0);
    }

    private static void thereAreNotSoMany() {
        LazyPages x = some();
        Checks.due("the last of the map", x.key(MAP, LOW, 3), HIGH);
        Checks.wrongArgument(x, "one too far in the map", () -> x.key(MAP, LOW, 4));
        Checks.due("the last of a view", x.key(2, LOW, 4), HIGH);
        Checks.wrongArgument(x, "one too far in a view", () -> x.key(2, LOW, 5));
        Checks.wrongArgument(x, "one too far from a key", () -> x.key(MAP, 7, 2));
        Checks.wrongArgument(x, "very far", () -> x.key(MAP, LOW, HIGH));
        LazyPages empty = new LazyPages();
        Checks.wrongArgument(empty, "the first one of an empty map", () -> empty.key(MAP, LOW, 0));
        LazyPages full = Checks.withKeys(600);
        Checks.wrongArgument(full, "key 600 of 600", () -> full.key(MAP, LOW, 600));
        Checks.wrongArgument(full, "the first one above all", () -> full.key(MAP, 600, 0));
        Checks.due("the last one by itself", full.key(MAP, 599, 0), 599);
    }

    private static void kBelowZero() {
        LazyPages x = some();
        Checks.due("0", x.key(MAP, -1, 0), -1);
        Checks.wrongArgument(x, "key -1, where a key is below from", () -> x.key(MAP, -1, -1));
        Checks.wrongArgument(x, "key -1 of all", () -> x.key(MAP, LOW, -1));
        Checks.wrongArgument(x, "key -1 of a view", () -> x.key(2, 7, -1));
        Checks.wrongArgument(x, "the lowest int", () -> x.key(MAP, 7, LOW));
    }

    private static void keyOfAView() {
        Checks.onlyTheMapAndViews("key", (x, view) -> x.key(view, 1, 0));
    }

    public static void main(String[] args) {
        Checks.sentence("Promise 8: has", "Whether a key is there", ReadingsTest::whetherAKeyIsThere);
        Checks.sentence("Promise 8: has", "IndexOutOfBoundsException", ReadingsTest::hasOfAView);
        Checks.sentence("Promise 9: get", "The value of a key", ReadingsTest::theValueOfAKey);
        Checks.sentence("Promise 9: get", "0 when it is not there", ReadingsTest::zeroWhenItIsNotThere);
        Checks.sentence("Promise 9: get", "IndexOutOfBoundsException", ReadingsTest::getOfAView);
        Checks.sentence("Promise 10: count", "How many keys from one to another one are there", ReadingsTest::howManyKeys);
        Checks.sentence("Promise 10: count", "IndexOutOfBoundsException", ReadingsTest::countOfAView);
        Checks.sentence("Promise 10: count", "IllegalArgumentException: from is above to", ReadingsTest::countOfARange);
        Checks.sentence("Promise 11: sum", "The sum of their values", ReadingsTest::theSumOfValues);
        Checks.sentence("Promise 11: sum", "The sum of their values, wrapping", ReadingsTest::sumWraps);
        Checks.sentence("Promise 11: sum", "IndexOutOfBoundsException", ReadingsTest::sumOfAView);
        Checks.sentence("Promise 11: sum", "IllegalArgumentException: from is above to", ReadingsTest::sumOfARange);
        Checks.sentence("Promise 12: key", "The k-th key that is there, from 0, by rising keys", ReadingsTest::theKthKey);
        Checks.sentence("Promise 12: key", "not below from", ReadingsTest::notBelowFrom);
        Checks.sentence("Promise 12: key", "IndexOutOfBoundsException", ReadingsTest::keyOfAView);
        Checks.sentence("Promise 12: key", "IllegalArgumentException: there are not so many", ReadingsTest::thereAreNotSoMany);
        Checks.sentence("Promise 12: key", "or k is below 0", ReadingsTest::kBelowZero);
        Checks.end();
    }
}
