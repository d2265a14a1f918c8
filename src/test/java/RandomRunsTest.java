import java.util.ArrayList;
import java.util.List;
import java.util.Map;
import java.util.Random;
import java.util.TreeMap;

/**
 * Long runs of calls, the same each time, on LazyPages and on a plain model of the document side by
 * side: the model keeps every message and, after a crash, does the kept ones again from the first.
 */
public final class RandomRunsTest {
    private static final int CALLS = 512;
    private static final int RUNS = 600;
    private static final int WRONG_SHOWN = 20;

    private interface Message {
        void change(TreeMap<Integer, Long> map);
    }

    private interface Call {
        long answer(LazyPages pages, Model model);
    }

    private static final class Model {
        final List<Message> log = new ArrayList<>();
        final List<TreeMap<Integer, Long>> views = new ArrayList<>();
        TreeMap<Integer, Long> map = new TreeMap<>();
        int kept = 0;

        Model() {
            for (int i = 0; i < 4; i++) {
                views.add(null);
            }
        }

        TreeMap<Integer, Long> view(int view) {
            if (view == -1) {
                return map;
            }
            if (view < 0 || view > 3 || views.get(view) == null) {
                throw new IndexOutOfBoundsException();
            }
            return views.get(view);
        }

        static void range(int from, int to) {
            if (from > to) {
                throw new IllegalArgumentException();
            }
        }

        boolean accept(Message message) {
            if (log.size() == 2500) {
                return false;
            }
            log.add(message);
            message.change(map);
            return true;
        }

        boolean acceptFor(int key, Message message) {
            return (map.containsKey(key) || map.size() < 600) && accept(message);
        }

        static void mustBe(boolean accepted) {
            if (!accepted) {
                throw new UnsupportedOperationException();
            }
        }

        int put(int key, long value) {
            mustBe(acceptFor(key, m -> m.put(key, value)));
            return log.size();
        }

        long add(int key, long more) {
            mustBe(acceptFor(key, m -> m.put(key, m.getOrDefault(key, 0L) + more)));
            return map.get(key);
        }

        long most(int key, long value) {
            mustBe(acceptFor(key, m -> m.merge(key, value, Math::max)));
            return map.get(key);
        }

        int delete(int from, int to) {
            range(from, to);
            int before = map.size();
            mustBe(accept(m -> m.subMap(from, true, to, true).clear()));
            return before - map.size();
        }

        int raise(int from, int to, long more) {
            range(from, to);
            mustBe(accept(m -> m.subMap(from, true, to, true).replaceAll((k, v) -> v + more)));
            return map.subMap(from, true, to, true).size();
        }

        int putAll(int key, int step, long value, long grow, int n) {
            if (n < 0 || n > 300) {
                throw new IllegalArgumentException();
            }
            int at = key;
            long with = value;
            for (int i = 0; i < n; i++) {
                int k = at;
                long v = with;
                if (!acceptFor(k, m -> m.put(k, v))) {
                    return i;
                }
                at += step;
                with += grow;
            }
            return n;
        }

        int count(int view, int from, int to) {
            TreeMap<Integer, Long> there = view(view);
            range(from, to);
            return there.subMap(from, true, to, true).size();
        }

        long sum(int view, int from, int to) {
            TreeMap<Integer, Long> there = view(view);
            range(from, to);
            long sum = 0;
            for (long value : there.subMap(from, true, to, true).values()) {
                sum += value;
            }
            return sum;
        }

        int key(int view, int from, int k) {
            List<Integer> keys = new ArrayList<>(view(view).tailMap(from, true).keySet());
            if (k < 0 || k >= keys.size()) {
                throw new IllegalArgumentException();
            }
            return keys.get(k);
        }

        static void viewNumber(int view) {
            if (view < 0 || view > 3) {
                throw new IndexOutOfBoundsException();
            }
        }

        long save(int view) {
            viewNumber(view);
            views.set(view, new TreeMap<>(map));
            return 0;
        }

        boolean drop(int view) {
            viewNumber(view);
            return views.set(view, null) != null;
        }

        int restore(int view) {
            viewNumber(view);
            TreeMap<Integer, Long> wanted = view(view);
            mustBe(log.size() + 1 + wanted.size() <= 2500);
            accept(m -> m.clear());
            for (Map.Entry<Integer, Long> entry : wanted.entrySet()) {
                put(entry.getKey(), entry.getValue());
            }
            return log.size();
        }

        int differ(int view, int other) {
            TreeMap<Integer, Long> one = view(view);
            TreeMap<Integer, Long> another = view(other);
            TreeMap<Integer, Long> all = new TreeMap<>(one);
            all.putAll(another);
            int differing = 0;
            for (int key : all.keySet()) {
                boolean same = one.containsKey(key) && one.get(key).equals(another.get(key));
                differing += same ? 0 : 1;
            }
            return differing;
        }

        int keep() {
            int fresh = log.size() - kept;
            kept = log.size();
            return fresh;
        }

        int crash() {
            int lost = log.size() - kept;
            log.subList(kept, log.size()).clear();
            map = new TreeMap<>();
            for (Message message : log) {
                message.change(map);
            }
            for (int i = 0; i < 4; i++) {
                views.set(i, null);
            }
            return lost;
        }

        int total(int what) {
            switch (what) {
                case 0:
                    return log.size();
                case 1:
                    return kept;
                case 2:
                    int saved = 0;
                    for (TreeMap<Integer, Long> view : views) {
                        saved += view == null ? 0 : 1;
                    }
                    return saved;
                default:
                    throw new IllegalArgumentException();
            }
        }
    }

    private final Random random;
    private final int width;
    private final int busy;
    private String told;

    private RandomRunsTest(int run) {
        random = new Random(run);
        int[] widths = {5, 40, 700, 5000, 1 << 20};
        width = widths[run % widths.length];
        busy = run % 3;
    }

    private int someKey() {
        switch (random.nextInt(20)) {
            case 0:
                return Integer.MIN_VALUE + random.nextInt(3);
            case 1:
                return Integer.MAX_VALUE - random.nextInt(3);
            case 2:
                return random.nextInt();
            default:
                return random.nextInt(width) - width / 3;
        }
    }

    private long someValue() {
        switch (random.nextInt(6)) {
            case 0:
                return Long.MIN_VALUE + random.nextInt(3);
            case 1:
                return Long.MAX_VALUE - random.nextInt(3);
            case 2:
                return random.nextLong();
            default:
                return random.nextInt(21) - 10;
        }
    }

    private int someView() {
        return random.nextInt(20) == 0 ? random.nextInt(9) - 3 : random.nextInt(5) - 1;
    }

    private int someStep() {
        switch (random.nextInt(5)) {
            case 0:
                return 0;
            case 1:
                return random.nextInt();
            default:
                return random.nextInt(2 * Math.max(2, width / 150)) - width / 400;
        }
    }

    private int someCount() {
        return random.nextInt(15) == 0 ? random.nextInt(5) * 100 - 100 : random.nextInt(busy == 0 ? 10 : 301);
    }

    /** An end of a range near its begin, most of the time, lest every delete empties the map. */
    private int someEnd(int from) {
        return random.nextInt(3) == 0 ? someKey() : from + random.nextInt(Math.max(2, width / 8)) - (random.nextInt(12) == 0 ? width : 0);
    }

    private Call someCall() {
        int key = someKey();
        int to = someEnd(key);
        long value = someValue();
        int view = someView();
        told = "(" + view + ") " + key + " " + to + " " + value;
        switch (random.nextInt(busy == 2 ? 34 : 30)) {
            case 0:
            case 1:
                return (p, m) -> p == null ? m.put(key, value) : p.put(key, value);
            case 2:
            case 3:
                return (p, m) -> p == null ? m.add(key, value) : p.add(key, value);
            case 4:
            case 5:
                return (p, m) -> p == null ? m.most(key, value) : p.most(key, value);
            case 6:
                return (p, m) -> p == null ? m.delete(key, to) : p.delete(key, to);
            case 7:
            case 8:
            case 9:
                return (p, m) -> p == null ? m.raise(key, to, value) : p.raise(key, to, value);
            case 10:
            case 30:
            case 31:
            case 32:
            case 33:
                int step = someStep();
                long grow = someValue();
                int n = someCount();
                told = told + " putAll " + step + " " + grow + " " + n;
                return (p, m) -> p == null ? m.putAll(key, step, value, grow, n) : p.putAll(key, step, value, grow, n);
            default:
                return someReading(key, to, view);
        }
    }

    private Call someReading(int key, int to, int view) {
        int other = someView();
        int small = random.nextInt(random.nextBoolean() ? 6 : 700) - 1;
        int pick = random.nextInt(40);
        told = told + " reading " + pick + " " + other + " " + small;
        if (pick < 4) {
            return (p, m) -> (p == null ? m.view(view).containsKey(key) : p.has(view, key)) ? 1 : 0;
        } else if (pick < 8) {
            return (p, m) -> p == null ? m.view(view).getOrDefault(key, 0L) : p.get(view, key);
        } else if (pick < 12) {
            return (p, m) -> p == null ? m.count(view, key, to) : p.count(view, key, to);
        } else if (pick < 16) {
            return (p, m) -> p == null ? m.sum(view, key, to) : p.sum(view, key, to);
        } else if (pick < 20) {
            return (p, m) -> p == null ? m.key(view, key, small) : p.key(view, key, small);
        } else if (pick < 24) {
            return (p, m) -> p == null ? m.differ(view, other) : p.differ(view, other);
        }
        return someTurn(pick, view, small);
    }

    private Call someTurn(int pick, int view, int small) {
        switch (pick) {
            case 24:
            case 25:
            case 26:
            case 27:
                return (p, m) -> {
                    if (p == null) {
                        return m.save(view);
                    }
                    p.save(view);
                    return 0;
                };
            case 28:
                return (p, m) -> (p == null ? m.drop(view) : p.drop(view)) ? 1 : 0;
            case 29:
            case 30:
                return (p, m) -> p == null ? m.restore(view) : p.restore(view);
            case 31:
                return (p, m) -> p == null ? m.keep() : p.sync();
            case 32:
                return (p, m) -> p == null ? m.keep() : p.checkpoint();
            case 33:
                return (p, m) -> p == null ? m.crash() : p.crash();
            case 34:
                return (p, m) -> {
                    if (p != null) {
                        p.settle();
                    }
                    return 0;
                };
            case 35:
            case 36:
                return (p, m) -> p == null || p.isSound() ? 1 : 0;
            default:
                return (p, m) -> p == null ? m.total(small) : p.total(small);
        }
    }

    private static String answer(Call call, LazyPages pages, Model model) {
        try {
            return Long.toString(call.answer(pages, model));
        } catch (RuntimeException e) {
            return "throws." + e.getClass().getSimpleName();
        }
    }

    private static int wrong = 0;
    private static int mostKeys = 0;
    private static int mostMessages = 0;
    private static int refusals = 0;

    private static void run(int number) {
        RandomRunsTest source = new RandomRunsTest(number);
        LazyPages pages = new LazyPages();
        Model model = new Model();
        for (int i = 0; i < CALLS; i++) {
            Call call = source.someCall();
            String due = answer(call, null, model);
            String got = answer(call, pages, null);
            refusals += due.equals("throws.UnsupportedOperationException") ? 1 : 0;
            mostKeys = Math.max(mostKeys, model.map.size());
            mostMessages = Math.max(mostMessages, model.log.size());
            if (!got.equals(due)) {
                wrong++;
                System.out.println("run " + number + ", call " + i + ": " + source.told + " answered " + got + ", due is " + due);
                return;
            }
        }
    }

    public static void main(String[] args) {
        for (int number = 0; number < RUNS && wrong < WRONG_SHOWN; number++) {
            run(number);
        }
        if (mostKeys < 600 || mostMessages < 2500 || refusals == 0) {
            wrong++;
            System.out.println("the runs do not come to the limits: " + mostKeys + " keys, " + mostMessages + " messages");
        }
        System.out.println(wrong == 0 ? "all answers are as due" : wrong + " runs are not as due");
        System.exit(wrong == 0 ? 0 : 1);
    }
}
