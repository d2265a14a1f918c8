import java.util.function.ToIntFunction;

/** Promises 17 to 22, settling, keeping and losing: a test for each sentence, at its boundaries. */
public final class KeepingTest {
    private static final int LOW = Checks.LOW;
    private static final int HIGH = Checks.HIGH;
    private static final int MAP = Checks.MAP;

    private static void settleMessagesThatWait() {
        LazyPages x = Checks.withKeys(600);
        x.raise(LOW, HIGH, 3);
        x.save(0);
        x.raise(50, 555, 4);
        x.delete(100, 110);
        x.put(105, 1);
        x.sync();
        x.raise(0, 599, 5);
        x.save(1);
        String before = Checks.state(x);
        x.settle();
        Checks.due("what shows is as before", Checks.state(x).equals(before), true);
        Checks.due("the map is as before", x.differ(MAP, 1), 0);
        x.settle();
        Checks.due("the map is as before when settled again", x.differ(MAP, 1), 0);
        Checks.due("isSound", x.isSound(), true);
        Checks.due("settle keeps nothing", x.crash(), 1);
        Checks.due("a value after the crash", x.get(MAP, 60), 67);
    }

    private static void settleWhenNoneWaits() {
        LazyPages empty = new LazyPages();
        empty.settle();
        Checks.dueContent("an empty map", empty, MAP);
        Checks.due("settle is no message", empty.total(0), 0);
        LazyPages last = Checks.withMessages(2499);
        last.raise(LOW, HIGH, 7);
        last.settle();
        Checks.due("messages at the limit", last.total(0), 2500);
        Checks.due("sum", last.sum(MAP, LOW, HIGH), 2100);
        LazyPages wraps = Checks.with(1, Long.MAX_VALUE, 2, Long.MIN_VALUE);
        wraps.raise(1, 2, Long.MAX_VALUE);
        wraps.settle();
        Checks.dueContent("values that wrap as they settle", wraps, MAP, 1, -2, 2, -1);
    }

    private static void keepHowManyWereNotBefore(ToIntFunction<LazyPages> keep, ToIntFunction<LazyPages> other) {
        LazyPages x = new LazyPages();
        Checks.due("no message", keep.applyAsInt(x), 0);
        x.put(1, 1);
        Checks.due("one", keep.applyAsInt(x), 1);
        Checks.due("none more", keep.applyAsInt(x), 0);
        Checks.due("none more for the other way to keep", other.applyAsInt(x), 0);
        x.putAll(0, 1, 0, 1, 4);
        Checks.due("four in one call", keep.applyAsInt(x), 4);
        x.delete(50, 60);
        x.raise(50, 60, 1);
        Checks.due("two that met no key", keep.applyAsInt(x), 2);
        x.put(9, 9);
        other.applyAsInt(x);
        x.put(9, 10);
        x.put(9, 11);
        Checks.due("two behind the other way to keep", keep.applyAsInt(x), 2);
        x.put(9, 12);
        x.crash();
        Checks.due("none behind a crash", keep.applyAsInt(x), 0);
        Checks.due("kept", x.total(1), 10);
        Checks.due("messages", x.total(0), 10);
        LazyPages last = Checks.withMessages(2500);
        Checks.due("2500", keep.applyAsInt(last), 2500);
        Checks.due("none behind the last", keep.applyAsInt(last), 0);
        LazyPages full = Checks.withKeys(600);
        full.save(0);
        full.restore(0);
        Checks.due("those of a restore too", keep.applyAsInt(full), 1201);
    }

    private static void keepWhatIsSoFar(ToIntFunction<LazyPages> keep) {
        LazyPages x = new LazyPages();
        x.putAll(0, 1, 0, 1, 4);
        x.raise(1, 2, 10);
        x.delete(0, 0);
        x.save(0);
        keep.applyAsInt(x);
        Checks.due("views stay", x.total(2), 1);
        Checks.dueContent("the map stays", x, MAP, 1, 11, 2, 12, 3, 3);
        x.raise(LOW, HIGH, 1000);
        x.put(77, 7);
        x.delete(1, 1);
        x.crash();
        Checks.dueContent("what was kept comes again", x, MAP, 1, 11, 2, 12, 3, 3);
        x.put(1, 5);
        x.crash();
        Checks.dueContent("and again", x, MAP, 1, 11, 2, 12, 3, 3);
        x.delete(LOW, HIGH);
        keep.applyAsInt(x);
        x.put(1, 1);
        x.crash();
        Checks.dueContent("an empty map comes again", x, MAP);
        LazyPages full = Checks.withKeys(600);
        keep.applyAsInt(full);
        full.delete(LOW, HIGH);
        full.crash();
        Checks.due("600 keys come again", full.count(MAP, LOW, HIGH), 600);
        Checks.due("with their values", full.sum(MAP, LOW, HIGH), 599 * 300);
    }

    private static void syncAnswers() {
        keepHowManyWereNotBefore(x -> x.sync(), x -> x.checkpoint());
    }

    private static void syncKeeps() {
        keepWhatIsSoFar(x -> x.sync());
    }

    private static void checkpointAnswers() {
        keepHowManyWereNotBefore(x -> x.checkpoint(), x -> x.sync());
    }

    private static void checkpointKeeps() {
        keepWhatIsSoFar(x -> x.checkpoint());
    }

    private static void checkpointThenSync() {
        LazyPages x = Checks.with(1, 10, 2, 20);
        x.checkpoint();
        x.raise(1, 2, 1);
        x.sync();
        x.delete(1, 1);
        x.crash();
        Checks.dueContent("a RAISE is done once", x, MAP, 1, 11, 2, 21);
        x.add(1, 5);
        x.checkpoint();
        x.crash();
        x.crash();
        Checks.dueContent("an ADD is done once", x, MAP, 1, 16, 2, 21);
    }

    private static void crashHowManyAreLost() {
        LazyPages x = new LazyPages();
        Checks.due("no message", x.crash(), 0);
        x.put(1, 1);
        Checks.due("one", x.crash(), 1);
        Checks.due("none more", x.crash(), 0);
        x.put(2, 2);
        x.sync();
        Checks.due("one that is kept", x.crash(), 0);
        x.put(3, 3);
        x.checkpoint();
        x.put(4, 4);
        x.delete(50, 60);
        Checks.due("two of four", x.crash(), 2);
        Checks.dueContent("what was kept", x, MAP, 2, 2, 3, 3);
        Checks.due("messages", x.total(0), 2);
        Checks.due("kept", x.total(1), 2);
        LazyPages last = Checks.withMessages(2500);
        Checks.due("2500", last.crash(), 2500);
        Checks.dueContent("2500 are lost", last, MAP);
        Checks.due("messages begin at 1 again", last.put(1, 1), 1);
        LazyPages most = Checks.withMessages(2499);
        most.sync();
        most.raise(0, 299, 1);
        Checks.due("the last one", most.crash(), 1);
        Checks.due("sum", most.sum(MAP, LOW, HIGH), 0);
    }

    private static void totalOfMessages() {
        LazyPages x = new LazyPages();
        Checks.due("none", x.total(0), 0);
        x.putAll(0, 1, 0, 0, 300);
        Checks.due("300", x.total(0), 300);
        x.crash();
        Checks.due("none behind a crash", x.total(0), 0);
        Checks.due("the last but one", Checks.withMessages(2499).total(0), 2499);
        Checks.due("the last one", Checks.withMessages(2500).total(0), 2500);
    }

    private static void totalOfKeptOnes() {
        LazyPages x = Checks.withMessages(2499);
        Checks.due("none", x.total(1), 0);
        x.sync();
        Checks.due("all", x.total(1), 2499);
        x.put(0, 1);
        Checks.due("all but one", x.total(1), 2499);
        x.checkpoint();
        Checks.due("2500", x.total(1), 2500);
        x.crash();
        Checks.due("2500 behind a crash", x.total(1), 2500);
    }

    private static void totalOfViews() {
        LazyPages x = new LazyPages();
        for (int view = 0; view < 4; view++) {
            Checks.due("before view " + view, x.total(2), view);
            x.save(view);
        }
        Checks.due("all four", x.total(2), 4);
        x.save(3);
        Checks.due("one saved again", x.total(2), 4);
        x.drop(0);
        x.drop(0);
        Checks.due("one dropped twice", x.total(2), 3);
        x.crash();
        Checks.due("behind a crash", x.total(2), 0);
    }

    private static void totalOfNoneOfThese() {
        LazyPages x = Checks.with(1, 10);
        for (int what : new int[] {LOW, -1, 3, HIGH}) {
            Checks.wrongArgument(x, "total of " + what, () -> x.total(what));
        }
        Checks.due("0", x.total(0), 1);
        Checks.due("2", x.total(2), 0);
    }

    /** What no call shows, a page that is not as it should be, is in InsideTest. */
    private static void soundAtTheBoundaries() {
        LazyPages x = new LazyPages();
        Checks.due("an empty map", x.isSound(), true);
        x.put(LOW, 0);
        x.put(HIGH, 0);
        Checks.due("the lowest and the highest int", x.isSound(), true);
        for (int key = 1; key <= 100; key++) {
            x.put(key % 2 == 0 ? key : -key, 0);
            Checks.due("keys one by one, " + key, x.isSound(), true);
        }
        LazyPages full = Checks.withKeys(600);
        Checks.due("600 keys", full.isSound(), true);
        Checks.saveAll(full);
        full.checkpoint();
        full.delete(1, 598);
        Checks.due("two keys that are left", full.isSound(), true);
        full.restore(3);
        Checks.due("600 keys again", full.isSound(), true);
        full.delete(LOW, HIGH);
        Checks.due("no key", full.isSound(), true);
        full.crash();
        Checks.due("behind a crash", full.isSound(), true);
    }

    private static void soundAllTheWay() {
        LazyPages x = new LazyPages();
        for (int i = 0; i < 22; i++) {
            x.putAll(i * 1_000_003, 7 - i, i, 1, 110);
            Checks.due("after putAll " + i, x.isSound(), true);
            x.raise(i * 1000, i * 100_000, 5);
            x.save(i % 4);
            x.delete(LOW, i * 1_000_003);
            Checks.due("after delete " + i, x.isSound(), true);
            if (i % 7 == 0) {
                x.sync();
            }
            if (i % 5 == 0) {
                x.crash();
            }
            Checks.due("in round " + i, x.isSound(), true);
        }
    }

    public static void main(String[] args) {
        String settled = "All messages that wait in pages go down to where their keys are";
        Checks.sentence("Promise 17: settle", settled, KeepingTest::settleMessagesThatWait);
        Checks.sentence("Promise 17: settle (none waits, or values wrap)", settled, KeepingTest::settleWhenNoneWaits);
        Checks.sentence("Promise 18: sync", "how many were not before", KeepingTest::syncAnswers);
        Checks.sentence("Promise 18: sync", "Messages so far are kept", KeepingTest::syncKeeps);
        Checks.sentence("Promise 19: checkpoint", "how many were not kept before", KeepingTest::checkpointAnswers);
        Checks.sentence("Promise 19: checkpoint", "They are kept", KeepingTest::checkpointKeeps);
        Checks.sentence("Promise 19: checkpoint", "and need not be done again", KeepingTest::checkpointThenSync);
        Checks.sentence("Promise 20: crash", "A crash: how many messages are lost", KeepingTest::crashHowManyAreLost);
        Checks.sentence("Promise 21: total", "How many: what = 0 messages", KeepingTest::totalOfMessages);
        Checks.sentence("Promise 21: total", "1 kept ones", KeepingTest::totalOfKeptOnes);
        Checks.sentence("Promise 21: total", "2 views", KeepingTest::totalOfViews);
        Checks.sentence("Promise 21: total", "IllegalArgumentException: what is none of these", KeepingTest::totalOfNoneOfThese);
        Checks.sentence("Promise 22: isSound", "Whether all pages are as they should be", KeepingTest::soundAtTheBoundaries);
        Checks.sentence("Promise 22: isSound (after each change)", "Whether all pages are as they should be", KeepingTest::soundAllTheWay);
        Checks.end();
    }
}
