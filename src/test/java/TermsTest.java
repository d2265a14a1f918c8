import java.util.LinkedHashMap;
import java.util.Map;
import java.util.function.Consumer;

/** The boundary cases that the document names in 'What it is' and in 'Terms', a test for each sentence. */
public final class TermsTest {
    private static final int LOW = Checks.LOW;
    private static final int HIGH = Checks.HIGH;
    private static final int MAP = Checks.MAP;

    /** Each kind of message that one call makes; all of them are for key 0. */
    private static Map<String, Consumer<LazyPages>> singleMessages() {
        Map<String, Consumer<LazyPages>> calls = new LinkedHashMap<>();
        calls.put("put", x -> x.put(0, 5));
        calls.put("add", x -> x.add(0, 5));
        calls.put("most", x -> x.most(0, 5));
        calls.put("delete", x -> x.delete(0, 0));
        calls.put("raise", x -> x.raise(0, 0, 5));
        return calls;
    }

    private static Map<String, Checks.OfView> readings() {
        Map<String, Checks.OfView> readings = new LinkedHashMap<>();
        readings.put("has", (x, view) -> x.has(view, 1));
        readings.put("get", (x, view) -> x.get(view, 1));
        readings.put("count", (x, view) -> x.count(view, 1, 2));
        readings.put("sum", (x, view) -> x.sum(view, 1, 2));
        readings.put("key", (x, view) -> x.key(view, 1, 0));
        readings.put("differ", (x, view) -> x.differ(view, MAP));
        readings.put("differ, as the other one,", (x, view) -> x.differ(MAP, view));
        return readings;
    }

    private static Map<String, Consumer<LazyPages>> callsThatAreNoMessages() {
        Map<String, Consumer<LazyPages>> calls = new LinkedHashMap<>();
        for (Map.Entry<String, Checks.OfView> entry : readings().entrySet()) {
            calls.put(entry.getKey() + " of the map", x -> entry.getValue().call(x, MAP));
            calls.put(entry.getKey() + " of a view", x -> entry.getValue().call(x, 0));
        }
        calls.put("save", x -> x.save(1));
        calls.put("drop", x -> x.drop(1));
        calls.put("settle", x -> x.settle());
        calls.put("sync", x -> x.sync());
        calls.put("checkpoint", x -> x.checkpoint());
        calls.put("total", x -> x.total(0));
        calls.put("isSound", x -> x.isSound());
        return calls;
    }

    private static void changesAreMessages() {
        LazyPages x = Checks.withKeys(600);
        int messages = 600;
        for (Map.Entry<String, Consumer<LazyPages>> entry : singleMessages().entrySet()) {
            entry.getValue().accept(x);
            messages++;
            Checks.due("messages after " + entry.getKey(), x.total(0), messages);
        }
        x.raise(LOW, HIGH, 1);
        Checks.due("messages after a raise of all keys", x.total(0), messages + 1);
        x.delete(LOW, HIGH);
        Checks.due("messages after a delete of all keys", x.total(0), messages + 2);
        LazyPages y = Checks.with(1, 10, 2, 20);
        y.raise(1, 2, 5);
        y.save(0);
        for (Map.Entry<String, Consumer<LazyPages>> entry : callsThatAreNoMessages().entrySet()) {
            entry.getValue().accept(y);
            Checks.due("messages after " + entry.getKey(), y.total(0), 3);
            Checks.dueContent("the map after " + entry.getKey(), y, MAP, 1, 15, 2, 25);
        }
    }

    private static void viewsOfSomeMoment() {
        Map<String, Consumer<LazyPages>> calls = new LinkedHashMap<>(singleMessages());
        calls.put("putAll", x -> x.putAll(0, 1, 70, 1, 3));
        calls.put("restore", x -> x.restore(0));
        calls.putAll(callsThatAreNoMessages());
        for (Map.Entry<String, Consumer<LazyPages>> entry : calls.entrySet()) {
            LazyPages x = Checks.with(1, 5);
            x.save(0);
            x.put(0, 3);
            x.raise(0, 1, 1);
            x.save(2);
            entry.getValue().accept(x);
            Checks.dueContent("a view after " + entry.getKey(), x, 2, 0, 4, 1, 6);
            Checks.dueContent("one of an earlier moment after " + entry.getKey(), x, 0, 1, 5);
        }
    }

    private static void keptComesAgain() {
        Map<String, Consumer<LazyPages>> losses = new LinkedHashMap<>(singleMessages());
        losses.put("putAll", x -> x.putAll(0, 1, 70, 1, 3));
        losses.put("restore", x -> x.restore(0));
        losses.put("delete of all", x -> x.delete(LOW, HIGH));
        for (Map.Entry<String, Consumer<LazyPages>> entry : losses.entrySet()) {
            LazyPages x = Checks.with(1, 5);
            x.save(0);
            x.put(0, 3);
            x.raise(0, 1, 1);
            x.sync();
            entry.getValue().accept(x);
            x.crash();
            Checks.dueContent("lost is " + entry.getKey(), x, MAP, 0, 4, 1, 6);
            Checks.due("messages, lost is " + entry.getKey(), x.total(0), 3);
            Checks.due("views, lost is " + entry.getKey(), x.total(2), 0);
        }
    }

    private static void call512() {
        LazyPages adds = new LazyPages();
        for (int call = 1; call <= 512; call++) {
            Checks.due("call " + call + ", add", adds.add(7, 1), call);
        }
        LazyPages puts = new LazyPages();
        for (int call = 1; call < 512; call++) {
            Checks.due("call " + call + ", put", puts.put(call * -4_000_037, call), call);
        }
        Checks.due("call 512, sum", puts.sum(MAP, LOW, HIGH), 511 * 512 / 2);
        LazyPages raises = Checks.withKeys(600);
        Checks.saveAll(raises);
        for (int call = 7; call < 512; call++) {
            Checks.due("call " + call + ", raise", raises.raise(LOW, HIGH, 1), 600);
        }
        Checks.due("call 512, differ", raises.differ(MAP, 3), 600);
    }

    private static void thereOrNot() {
        LazyPages x = Checks.with(5, 0);
        Checks.due("a key with the value 0 is there", x.has(MAP, 5), true);
        Checks.due("the key below it is not", x.has(MAP, 4), false);
        Checks.due("the key above it is not", x.has(MAP, 6), false);
        Checks.due("keys", x.count(MAP, LOW, HIGH), 1);
        x.delete(5, 5);
        Checks.due("a key that went is not", x.has(MAP, 5), false);
        Checks.due("keys after a delete", x.count(MAP, LOW, HIGH), 0);
    }

    private static void atMost600Keys() {
        LazyPages x = Checks.withKeys(599);
        x.put(HIGH, 1);
        Checks.due("keys with the 600th", x.count(MAP, LOW, HIGH), 600);
        Checks.refused(x, "put of key 601", () -> x.put(LOW, 1));
        Checks.due("keys after key 601", x.count(MAP, LOW, HIGH), 600);
        x.delete(0, 0);
        Checks.due("put of a key in the place of another", x.put(LOW, 1), 602);
        Checks.refused(x, "put of key 601 once more", () -> x.put(0, 1));
        LazyPages y = Checks.withKeys(600);
        Checks.due("putAll of key 601", y.putAll(600, 1, 0, 0, 1), 0);
        Checks.due("keys after putAll of key 601", y.count(MAP, LOW, HIGH), 600);
    }

    private static void atMost2500Messages() {
        for (Map.Entry<String, Consumer<LazyPages>> entry : singleMessages().entrySet()) {
            LazyPages x = Checks.withMessages(2499);
            entry.getValue().accept(x);
            Checks.due("messages after " + entry.getKey(), x.total(0), 2500);
            for (Map.Entry<String, Consumer<LazyPages>> more : singleMessages().entrySet()) {
                Checks.refused(x, more.getKey() + " as message 2501", () -> more.getValue().accept(x));
            }
        }
        LazyPages y = Checks.withMessages(2499);
        Checks.due("putAll of messages 2500 and 2501", y.putAll(0, 1, 5, 5, 2), 1);
        Checks.due("putAll of message 2501", y.putAll(0, 1, 5, 5, 1), 0);
        Checks.due("messages after putAll", y.total(0), 2500);
        LazyPages z = Checks.withMessages(2499);
        z.delete(LOW, HIGH);
        Checks.refused(z, "a put into the empty map", () -> z.put(0, 0));
    }

    private static void keptMessagesCountToo() {
        LazyPages x = Checks.withMessages(2499);
        x.checkpoint();
        Checks.due("put as message 2500", x.put(0, 5), 2500);
        x.sync();
        x.checkpoint();
        x.settle();
        for (Map.Entry<String, Consumer<LazyPages>> more : singleMessages().entrySet()) {
            Checks.refused(x, more.getKey() + " as message 2501", () -> more.getValue().accept(x));
        }
        Checks.due("putAll of message 2501", x.putAll(0, 1, 5, 5, 1), 0);
        x.save(0);
        Checks.refused(x, "restore as message 2501", () -> x.restore(0));
    }

    private static void numberedAsAccepted() {
        LazyPages x = Checks.withKeys(600);
        Checks.due("message 601", x.put(0, 1), 601);
        Checks.refused(x, "a put of key 601", () -> x.put(600, 1));
        Checks.wrongArgument(x, "delete(1, 0)", () -> x.delete(1, 0));
        Checks.due("message 602, behind some that were not accepted", x.put(0, 1), 602);
        Checks.due("putAll of which one is accepted", x.putAll(599, 1, 1, 1, 9), 1);
        Checks.due("message 604", x.put(0, 1), 604);
    }

    private static void oneBehindTheOther() {
        LazyPages x = Checks.with(1, 10, 2, 20);
        x.raise(1, 2, 100);
        x.put(1, 11);
        x.most(2, 119);
        x.add(3, 7);
        Checks.dueContent("a RAISE before a PUT, a MOST and an ADD", x, MAP, 1, 11, 2, 120, 3, 7);
        x.delete(1, 3);
        x.add(2, 5);
        x.most(3, -5);
        x.raise(1, 3, 1);
        Checks.dueContent("a DELETE before an ADD, a MOST and a RAISE", x, MAP, 2, 6, 3, -4);
    }

    private static void put() {
        LazyPages x = new LazyPages();
        x.put(LOW, Long.MIN_VALUE);
        x.put(-1, 0);
        x.put(0, -1);
        x.put(HIGH, Long.MAX_VALUE);
        Checks.dueContent("keys that were not there", x, MAP, LOW, Long.MIN_VALUE, -1, 0, 0, -1, HIGH, Long.MAX_VALUE);
        x.put(LOW, Long.MAX_VALUE);
        x.put(-1, 9);
        x.put(0, 0);
        x.put(HIGH, Long.MIN_VALUE);
        Checks.dueContent("keys that were there", x, MAP, LOW, Long.MAX_VALUE, -1, 9, 0, 0, HIGH, Long.MIN_VALUE);
    }

    private static void addToNone() {
        LazyPages x = new LazyPages();
        Checks.due("add of 4 to none", x.add(1, 4), 4);
        Checks.due("add of 0 to none", x.add(2, 0), 0);
        Checks.due("add of the least to none", x.add(3, Long.MIN_VALUE), Long.MIN_VALUE);
        Checks.dueContent("keys that were not there", x, MAP, 1, 4, 2, 0, 3, Long.MIN_VALUE);
        x.delete(1, 1);
        Checks.due("add to a key that went", x.add(1, 3), 3);
    }

    private static void addWraps() {
        LazyPages x = Checks.with(1, Long.MAX_VALUE - 1, 2, Long.MIN_VALUE + 1);
        Checks.due("up to the greatest", x.add(1, 1), Long.MAX_VALUE);
        Checks.due("beyond the greatest", x.add(1, 1), Long.MIN_VALUE);
        Checks.due("down to the least", x.add(2, -1), Long.MIN_VALUE);
        Checks.due("beyond the least", x.add(2, -1), Long.MAX_VALUE);
        Checks.due("the least twice", x.add(1, Long.MIN_VALUE), 0);
        Checks.due("the greatest twice", x.add(2, Long.MAX_VALUE), -2);
        Checks.dueContent("values that wrapped", x, MAP, 1, 0, 2, -2);
    }

    private static void mostIsTheGreater() {
        LazyPages x = Checks.with(1, -4);
        Checks.due("one below", x.most(1, -5), -4);
        Checks.due("the same", x.most(1, -4), -4);
        Checks.due("one above", x.most(1, -3), -3);
        Checks.due("the least", x.most(1, Long.MIN_VALUE), -3);
        Checks.due("the greatest", x.most(1, Long.MAX_VALUE), Long.MAX_VALUE);
        Checks.due("the least against the greatest", x.most(1, Long.MIN_VALUE), Long.MAX_VALUE);
        x.put(2, Long.MIN_VALUE);
        Checks.due("the greatest against the least", x.most(2, Long.MAX_VALUE), Long.MAX_VALUE);
        x.put(3, -2);
        x.raise(3, 3, 10);
        Checks.due("against a value that was raised", x.most(3, 7), 8);
        Checks.dueContent("after MOST", x, MAP, 1, Long.MAX_VALUE, 2, Long.MAX_VALUE, 3, 8);
    }

    private static void mostOfNone() {
        LazyPages x = new LazyPages();
        Checks.due("one below 0", x.most(1, -1), -1);
        Checks.due("0", x.most(2, 0), 0);
        Checks.due("the least", x.most(3, Long.MIN_VALUE), Long.MIN_VALUE);
        Checks.dueContent("keys that were not there", x, MAP, 1, -1, 2, 0, 3, Long.MIN_VALUE);
        x.delete(2, 2);
        Checks.due("a key that went", x.most(2, -7), -7);
    }

    private static void refusedWhen600KeysAre() {
        LazyPages put = Checks.withKeys(599);
        Checks.due("put of the 600th", put.put(-1, 3), 600);
        Checks.refused(put, "put of the 601st", () -> put.put(600, 3));
        Checks.due("put of one that is there", put.put(-1, 4), 601);
        LazyPages add = Checks.withKeys(599);
        Checks.due("add of the 600th", add.add(-1, 3), 3);
        Checks.refused(add, "add of the 601st", () -> add.add(600, 3));
        Checks.due("add of one that is there", add.add(-1, 4), 7);
        LazyPages most = Checks.withKeys(599);
        Checks.due("most of the 600th", most.most(-1, 3), 3);
        Checks.refused(most, "most of the 601st", () -> most.most(600, 3));
        Checks.due("most of one that is there", most.most(-1, 4), 4);
        Checks.due("delete is not refused", most.delete(0, 0), 1);
        Checks.due("most of a key in its place", most.most(600, 3), 3);
        LazyPages raise = Checks.withKeys(600);
        Checks.due("raise is not refused", raise.raise(600, 601, 1), 0);
    }

    private static void deleteFromOneToAnother() {
        LazyPages x = Checks.with(3, 30, 4, 40, 5, 50, 6, 60);
        x.delete(4, 5);
        Checks.dueContent("the ends go, their neighbours stay", x, MAP, 3, 30, 6, 60);
        x.delete(4, 5);
        x.delete(LOW, 2);
        x.delete(7, HIGH);
        Checks.dueContent("where no key is", x, MAP, 3, 30, 6, 60);
        x.delete(6, 6);
        Checks.dueContent("one key", x, MAP, 3, 30);
        LazyPages y = Checks.with(LOW, 1, LOW + 1, 2, 0, 3, HIGH - 1, 4, HIGH, 5);
        y.delete(LOW, LOW);
        y.delete(HIGH, HIGH);
        Checks.dueContent("the lowest and the highest int", y, MAP, LOW + 1, 2, 0, 3, HIGH - 1, 4);
        y.put(LOW, 1);
        y.put(HIGH, 1);
        y.delete(LOW, HIGH);
        Checks.dueContent("all keys", y, MAP);
        LazyPages z = Checks.withKeys(600);
        z.delete(1, 598);
        Checks.dueContent("keys of many pages", z, MAP, 0, 0, 599, 599);
    }

    private static void raiseFromOneToAnother() {
        LazyPages x = Checks.with(3, 30, 4, 40, 5, 50, 6, 60);
        x.raise(4, 5, 7);
        Checks.dueContent("the ends are raised, their neighbours not", x, MAP, 3, 30, 4, 47, 5, 57, 6, 60);
        x.raise(LOW, 2, 7);
        x.raise(7, HIGH, 7);
        Checks.dueContent("where no key is", x, MAP, 3, 30, 4, 47, 5, 57, 6, 60);
        x.delete(4, 5);
        x.raise(3, 5, -1);
        x.put(4, 1);
        Checks.dueContent("keys that are not there do not come", x, MAP, 3, 29, 4, 1, 6, 60);
        LazyPages y = Checks.with(LOW, 1, LOW + 1, 2, HIGH - 1, 4, HIGH, 5);
        y.raise(LOW, LOW, 10);
        y.raise(HIGH, HIGH, 20);
        Checks.dueContent("the lowest and the highest int", y, MAP, LOW, 11, LOW + 1, 2, HIGH - 1, 4, HIGH, 25);
        LazyPages z = Checks.withKeys(600);
        z.raise(1, 598, 1000);
        Checks.due("keys of many pages", z.sum(MAP, 1, 598), 598 * 599 / 2 + 598_000);
        Checks.due("the key below them", z.get(MAP, 0), 0);
        Checks.due("the key above them", z.get(MAP, 599), 599);
    }

    private static void raiseWraps() {
        LazyPages x = Checks.with(1, Long.MAX_VALUE - 1, 2, Long.MIN_VALUE + 1, 3, 0);
        x.raise(1, 1, 1);
        x.raise(2, 2, -1);
        Checks.dueContent("to the ends", x, MAP, 1, Long.MAX_VALUE, 2, Long.MIN_VALUE, 3, 0);
        x.raise(1, 1, 1);
        x.raise(2, 2, -1);
        Checks.dueContent("beyond the ends", x, MAP, 1, Long.MIN_VALUE, 2, Long.MAX_VALUE, 3, 0);
        x.raise(LOW, HIGH, Long.MIN_VALUE);
        x.raise(LOW, HIGH, Long.MIN_VALUE);
        Checks.dueContent("all, by the least, twice", x, MAP, 1, Long.MIN_VALUE, 2, Long.MAX_VALUE, 3, 0);
        x.raise(LOW, HIGH, Long.MAX_VALUE);
        Checks.dueContent("all, by the greatest", x, MAP, 1, -1, 2, -2, 3, Long.MAX_VALUE);
    }

    private static void aMapEach() {
        LazyPages x = new LazyPages();
        for (int view = 0; view < 4; view++) {
            x.put(view, view + 10);
            x.save(view);
        }
        x.raise(0, 3, 5);
        x.delete(2, 2);
        x.settle();
        x.sync();
        Checks.dueContent("view 0", x, 0, 0, 10);
        Checks.dueContent("view 1", x, 1, 0, 10, 1, 11);
        Checks.dueContent("view 2", x, 2, 0, 10, 1, 11, 2, 12);
        Checks.dueContent("view 3", x, 3, 0, 10, 1, 11, 2, 12, 3, 13);
        Checks.dueContent("the map", x, MAP, 0, 15, 1, 16, 3, 18);
    }

    private static void theMapIsMinusOne() {
        LazyPages x = new LazyPages();
        Checks.due("keys of -1, empty", x.count(-1, LOW, HIGH), 0);
        x.put(5, 6);
        Checks.due("value of -1", x.get(-1, 5), 6);
        Checks.wrongView(x, "get of -2", () -> x.get(-2, 5));
        Checks.wrongView(x, "get of 0", () -> x.get(0, 5));
    }

    private static void notSavedIsNone() {
        Checks.due("NONE", LazyPages.NONE, -1);
        LazyPages x = Checks.with(5, 6);
        for (int view = 0; view < 4; view++) {
            int none = view;
            Checks.wrongView(x, "get of view " + view, () -> x.get(none, 5));
            Checks.due("drop of view " + view, x.drop(view), false);
        }
        x.save(2);
        Checks.due("get of the one that was saved", x.get(2, 5), 6);
        Checks.wrongView(x, "get of the one below it", () -> x.get(1, 5));
        Checks.wrongView(x, "get of the one above it", () -> x.get(3, 5));
        LazyPages empty = new LazyPages();
        empty.save(0);
        Checks.due("an empty map that was saved is not none", empty.count(0, LOW, HIGH), 0);
    }

    private static void keptWhenCalled() {
        LazyPages x = Checks.with(1, 1);
        Checks.due("kept before a sync", x.total(1), 0);
        x.sync();
        Checks.due("kept with a sync", x.total(1), 1);
        x.put(2, 2);
        Checks.due("kept before a checkpoint", x.total(1), 1);
        x.checkpoint();
        Checks.due("kept with a checkpoint", x.total(1), 2);
        x.put(3, 3);
        x.settle();
        x.save(0);
        x.isSound();
        Checks.due("kept by other calls", x.total(1), 2);
        x.crash();
        Checks.dueContent("what was kept", x, MAP, 1, 1, 2, 2);
    }

    private static void neverAccepted() {
        LazyPages x = Checks.with(1, 10, 2, 20);
        x.sync();
        x.put(1, 11);
        x.add(2, 1);
        x.most(3, 30);
        x.delete(1, 1);
        x.raise(LOW, HIGH, 5);
        x.putAll(7, 1, 7, 1, 2);
        x.crash();
        Checks.dueContent("each message that was not kept is undone", x, MAP, 1, 10, 2, 20);
        Checks.due("their numbers are given again", x.put(1, 10), 3);
    }

    private static void roomAfterACrash() {
        LazyPages messages = Checks.withMessages(2499);
        messages.sync();
        messages.put(0, 1);
        Checks.refused(messages, "put as message 2501", () -> messages.put(0, 2));
        messages.crash();
        Checks.due("put as message 2500 after a crash", messages.put(0, 3), 2500);
        messages.checkpoint();
        messages.crash();
        Checks.refused(messages, "put when 2500 messages are kept", () -> messages.put(0, 4));
        LazyPages keys = Checks.withKeys(599);
        keys.sync();
        keys.put(599, 1);
        Checks.refused(keys, "put of key 601", () -> keys.put(600, 1));
        keys.crash();
        Checks.due("put of the 600th key after a crash", keys.put(600, 1), 600);
        Checks.refused(keys, "put of key 601 after a crash", () -> keys.put(599, 1));
        LazyPages fewer = Checks.withKeys(600);
        fewer.sync();
        fewer.delete(0, 0);
        fewer.crash();
        Checks.refused(fewer, "put of key 601 after a delete that is lost", () -> fewer.put(600, 1));
    }

    private static void allViewsAreNone() {
        LazyPages x = Checks.with(1, 10);
        Checks.saveAll(x);
        x.sync();
        x.crash();
        Checks.due("views after a crash that loses no message", x.total(2), 0);
        for (int view = 0; view < 4; view++) {
            int none = view;
            Checks.wrongView(x, "get of view " + view, () -> x.get(none, 1));
        }
        x.save(3);
        Checks.dueContent("a view that is saved after the crash", x, 3, 1, 10);
    }

    /** The same messages with and without calls that only move them; ranges are compared, to need few calls. */
    private static void theLayoutDoesNotShow() {
        LazyPages plain = new LazyPages();
        LazyPages busy = new LazyPages();
        for (int i = 0; i < 40; i++) {
            change(plain, i);
            change(busy, i);
            busy.settle();
            busy.checkpoint();
            Checks.due("messages in round " + i, busy.total(0), plain.total(0));
        }
        sameRanges("settled", plain, busy);
        plain.sync();
        busy.crash();
        plain.crash();
        sameRanges("kept by sync and by checkpoint", plain, busy);
    }

    private static void change(LazyPages x, int round) {
        x.putAll(round * 37 % 100, 11, round, round, 20);
        x.raise(round, round * 20, round + 1);
        x.delete(round * 8, round * 8 + 3);
    }

    private static void sameRanges(String what, LazyPages one, LazyPages other) {
        for (int from = 0; from < 400; from += 20) {
            int to = from + 19;
            Checks.due(what + ", keys from " + from, other.count(MAP, from, to), one.count(MAP, from, to));
            Checks.due(what + ", sum from " + from, other.sum(MAP, from, to), one.sum(MAP, from, to));
        }
    }

    private static void theOrderOfKeysDoesNotShow() {
        LazyPages rising = Checks.withKeys(600);
        LazyPages falling = new LazyPages();
        falling.putAll(599, -1, 599, -1, 300);
        falling.putAll(299, -1, 299, -1, 300);
        LazyPages mixed = new LazyPages();
        mixed.putAll(0, 2, 0, 2, 300);
        mixed.putAll(599, -2, 599, -2, 300);
        sameRanges("falling keys", rising, falling);
        sameRanges("mixed keys", rising, mixed);
        for (int i = 0; i < 600; i += 23) {
            Checks.due("falling key " + i, falling.key(MAP, LOW, i), i);
            Checks.due("mixed key " + i, mixed.key(MAP, LOW, i), i);
        }
    }

    private static void theOneNamedFirst() {
        LazyPages last = Checks.withMessages(2500);
        last.save(0);
        Checks.wrongArgument(last, "delete(5, 4) that would be refused too", () -> last.delete(5, 4));
        Checks.wrongArgument(last, "raise(5, 4) that would be refused too", () -> last.raise(5, 4, 1));
        Checks.wrongView(last, "restore of none that would be refused too", () -> last.restore(1));
        Checks.wrongView(last, "restore of view 4 that would be refused too", () -> last.restore(4));
        Checks.wrongView(last, "restore of view -1 that would be refused too", () -> last.restore(MAP));
        LazyPages x = Checks.with(4, 40);
        for (int view : new int[] {-2, 0, 4}) {
            Checks.wrongView(x, "count(5, 4) of view " + view, () -> x.count(view, 5, 4));
            Checks.wrongView(x, "sum(5, 4) of view " + view, () -> x.sum(view, 5, 4));
            Checks.wrongView(x, "key -1 of view " + view, () -> x.key(view, 0, -1));
            Checks.wrongView(x, "key 9 of view " + view, () -> x.key(view, 0, 9));
        }
    }

    private static void onlyTheMapAndSavedViews() {
        for (Map.Entry<String, Checks.OfView> entry : readings().entrySet()) {
            Checks.onlyTheMapAndViews(entry.getKey(), entry.getValue());
        }
    }

    /** Views 0 and 1 have what the map has, so that they show each change of the map and of one of them. */
    private static void nothingChanges(String what, LazyPages x, Runnable... calls) {
        x.save(0);
        x.save(1);
        String totals = totals(x);
        for (int i = 0; i < calls.length; i++) {
            boolean threw = false;
            try {
                calls[i].run();
            } catch (IllegalArgumentException | IndexOutOfBoundsException | UnsupportedOperationException e) {
                threw = true;
            }
            String call = what + ", call " + i;
            Checks.due(call + " threw", threw, true);
            Checks.due(call + ", the map against view 0", x.differ(MAP, 0), 0);
            Checks.due(call + ", view 0 against view 1", x.differ(0, 1), 0);
            Checks.due(call + ", totals as before", totals(x).equals(totals), true);
            Checks.due(call + ", isSound", x.isSound(), true);
        }
    }

    private static String totals(LazyPages x) {
        return x.total(0) + " " + x.total(1) + " " + x.total(2);
    }

    private static void aCallThatThrowsChangesNothing() {
        LazyPages full = Checks.withKeys(600);
        full.sync();
        full.raise(0, 299, 1);
        nothingChanges("600 keys", full, () -> full.put(600, 1), () -> full.add(600, 1), () -> full.most(600, 1));
        LazyPages last = Checks.withMessages(2100);
        last.sync();
        last.putAll(0, 1, 5, 5, 300);
        last.putAll(300, 1, 5, 5, 100);
        nothingChanges("2500 messages", last, () -> last.put(0, 1), () -> last.add(0, 1), () -> last.most(0, 99),
            () -> last.delete(0, 9), () -> last.raise(0, 9, 1), () -> last.restore(0));
        LazyPages x = Checks.with(1, 10, 2, 20);
        x.sync();
        x.put(1, 11);
        nothingChanges("wrong arguments", x, () -> x.delete(2, 1), () -> x.raise(2, 1, 1),
            () -> x.putAll(1, 1, 1, 1, -1), () -> x.putAll(1, 1, 1, 1, 301), () -> x.count(MAP, 2, 1),
            () -> x.sum(MAP, 2, 1), () -> x.key(MAP, 1, 2), () -> x.key(MAP, 1, -1), () -> x.total(3));
        nothingChanges("wrong views", x, () -> x.has(4, 1), () -> x.get(4, 1), () -> x.count(4, 1, 2),
            () -> x.sum(4, 1, 2), () -> x.key(4, 1, 0), () -> x.save(4), () -> x.save(-1), () -> x.drop(4),
            () -> x.drop(-1), () -> x.restore(4), () -> x.restore(-1), () -> x.restore(2), () -> x.differ(0, 2),
            () -> x.differ(2, 0));
        Checks.due("kept messages stay kept, of full", full.crash(), 1);
        Checks.due("and what they made, of full", full.sum(MAP, LOW, HIGH), 599 * 300);
        Checks.due("kept messages stay kept, of last", last.crash(), 400);
        Checks.due("and what they made, of last", last.sum(MAP, LOW, HIGH), 0);
        Checks.due("kept messages stay kept, of x", x.crash(), 1);
        Checks.dueContent("and what they made, of x", x, MAP, 1, 10, 2, 20);
    }

    public static void main(String[] args) {
        Checks.sentence("What it is", "takes its changes as messages, single ones and for whole ranges", TermsTest::changesAreMessages);
        Checks.sentence("What it is", "views of it as it was at some moment", TermsTest::viewsOfSomeMoment);
        Checks.sentence("What it is", "what was kept comes again when all else is lost", TermsTest::keptComesAgain);
        Checks.sentence("What it is", "An object is used for at most 512 calls after it has been made", TermsTest::call512);
        Checks.sentence("Terms", "A KEY is there with a VALUE, or not", TermsTest::thereOrNot);
        Checks.sentence("Terms", "at most 600 keys are there", TermsTest::atMost600Keys);
        Checks.sentence("Terms (MESSAGES)", "at most 2500: more are refused", TermsTest::atMost2500Messages);
        Checks.sentence("Terms (MESSAGES that are kept)", "at most 2500: more are refused", TermsTest::keptMessagesCountToo);
        Checks.sentence("Terms", "MESSAGES are numbered 0, 1, .. in the order in which they were accepted", TermsTest::numberedAsAccepted);
        Checks.sentence("Terms", "What a map is, is what all messages make of an empty one, one behind the other", TermsTest::oneBehindTheOther);
        Checks.sentence("Terms", "PUT: the key is there with the value", TermsTest::put);
        Checks.sentence("Terms (a key that was not there)", "ADD: the value (0, if the key was not there) and more, wrapping", TermsTest::addToNone);
        Checks.sentence("Terms (a wrap-around)", "ADD: the value (0, if the key was not there) and more, wrapping", TermsTest::addWraps);
        Checks.sentence("Terms", "MOST: the greater one of the value there was and another one", TermsTest::mostIsTheGreater);
        Checks.sentence("Terms (a key that was not there)", "that one, if the key was not there", TermsTest::mostOfNone);
        Checks.sentence("Terms", "These three are refused when the key is not there and 600 keys are", TermsTest::refusedWhen600KeysAre);
        Checks.sentence("Terms", "DELETE: all keys from one to another one are there no more", TermsTest::deleteFromOneToAnother);
        Checks.sentence("Terms", "RAISE: all values of keys from one to another one that are there get more", TermsTest::raiseFromOneToAnother);
        Checks.sentence("Terms (a wrap-around)", "RAISE: all values of keys from one to another one that are there get more, wrapping", TermsTest::raiseWraps);
        Checks.sentence("Terms", "VIEWS 0 .. 3 have a map each, as it was when it was saved", TermsTest::aMapEach);
        Checks.sentence("Terms", "THE MAP itself is -1", TermsTest::theMapIsMinusOne);
        Checks.sentence("Terms", "A view that was not saved is NONE", TermsTest::notSavedIsNone);
        Checks.sentence("Terms", "KEPT are messages when sync() or checkpoint() is called", TermsTest::keptWhenCalled);
        Checks.sentence("Terms", "CRASH: messages that are not kept were never accepted", TermsTest::neverAccepted);
        Checks.sentence("Terms (room again behind a full map)", "CRASH: messages that are not kept were never accepted", TermsTest::roomAfterACrash);
        Checks.sentence("Terms (CRASH)", "and all views are none", TermsTest::allViewsAreNone);
        Checks.sentence("Terms (settled and kept)", "Also those messages of which a checkpoint is made; how the map is laid out in pages, how many messages wait in them, and how often they go on, does not show", TermsTest::theLayoutDoesNotShow);
        Checks.sentence("Terms (other orders of keys)", "how the map is laid out in pages, how many messages wait in them, and how often they go on, does not show", TermsTest::theOrderOfKeysDoesNotShow);
        Checks.sentence("Terms", "Methods throw what their comments name, the one named first when several would do", TermsTest::theOneNamedFirst);
        Checks.sentence("Terms", "IndexOutOfBoundsException: view is not -1 .. 3, or none", TermsTest::onlyTheMapAndSavedViews);
        Checks.sentence("Terms", "A call that throws changes nothing", TermsTest::aCallThatThrowsChangesNothing);
        Checks.end();
    }
}
