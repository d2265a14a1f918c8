import java.lang.reflect.Field;
import java.util.Arrays;

/**
 * What no call shows of promises 17 and 22: that messages do wait and that settle sends them down,
 * and that isSound sees a page that is not as it should be. Looks into the object for this.
 */
public final class InsideTest {
    private interface Look {
        void inside() throws ReflectiveOperationException;
    }

    private interface Damage {
        void to(Object table, Object[] pages) throws ReflectiveOperationException;
    }

    private static Field field(Object owner, String name) throws ReflectiveOperationException {
        Field field = owner.getClass().getDeclaredField(name);
        field.setAccessible(true);
        return field;
    }

    private static Object table(LazyPages x, String name) throws ReflectiveOperationException {
        return field(x, name).get(x);
    }

    private static Object[] pages(Object table) throws ReflectiveOperationException {
        Object[] all = (Object[]) field(table, "pages").get(table);
        return Arrays.copyOf(all, field(table, "pageCount").getInt(table));
    }

    private static int[] keys(Object page) throws ReflectiveOperationException {
        return (int[]) field(page, "keys").get(page);
    }

    private static void set(Object owner, String name, int value) throws ReflectiveOperationException {
        field(owner, name).setInt(owner, value);
    }

    private static int read(Object owner, String name) throws ReflectiveOperationException {
        return field(owner, name).getInt(owner);
    }

    private static int waitingPages(Object table) throws ReflectiveOperationException {
        int waiting = 0;
        for (Object page : pages(table)) {
            waiting += field(page, "waiting").getLong(page) == 0 ? 0 : 1;
        }
        return waiting;
    }

    private static Object view(LazyPages x, int number) throws ReflectiveOperationException {
        return ((Object[]) table(x, "views"))[number];
    }

    private static void due(String what, boolean holds) {
        Checks.due(what, holds, true);
    }

    private static LazyPages some() {
        LazyPages x = new LazyPages();
        x.putAll(-300, 2, 5, 3, 300);
        for (int view = 0; view < 4; view++) {
            x.save(view);
        }
        x.sync();
        return x;
    }

    private static void settling() throws ReflectiveOperationException {
        LazyPages x = some();
        Object map = table(x, "map");
        x.raise(-300, 300, 7);
        due("a raise waits in all pages", waitingPages(map) == pages(map).length);
        long before = x.sum(-1, -300, 300);
        x.save(0);
        x.sync();
        due("nothing waits in a view", waitingPages(view(x, 0)) == 0);
        due("nothing waits in what is kept", waitingPages(table(x, "kept")) == 0);
        x.settle();
        due("nothing waits after settle", waitingPages(map) == 0);
        due("settle changes no sum", x.sum(-1, -300, 300) == before);
        due("settle changes no value", x.differ(-1, 0) == 0);
    }

    /** Both halves of a page have what waited in the whole of it. */
    private static void splitting() throws ReflectiveOperationException {
        LazyPages x = new LazyPages();
        x.putAll(0, 10, 0, 1, 32);
        x.raise(0, 310, 1000);
        due("one page", pages(table(x, "map")).length == 1);
        x.put(155, 5);
        due("two pages", pages(table(x, "map")).length == 2);
        due("the sum of both", x.sum(-1, 0, 310) == 31 * 16 + 32_000 + 5);
        due("the values of both", x.get(-1, 0) == 1000 && x.get(-1, 155) == 5 && x.get(-1, 310) == 1031);
    }

    private static void seen(String what, LazyPages x, Object table, Damage damage) throws ReflectiveOperationException {
        due("isSound before " + what, x.isSound());
        damage.to(table, pages(table));
        due("isSound sees " + what, !x.isSound());
    }

    private static void damaged(String what, Damage damage) throws ReflectiveOperationException {
        LazyPages x = some();
        seen(what + " in the map", x, table(x, "map"), damage);
        LazyPages y = some();
        seen(what + " in what is kept", y, table(y, "kept"), damage);
        for (int view = 0; view < 4; view++) {
            LazyPages z = some();
            seen(what + " in view " + view, z, view(z, view), damage);
        }
    }

    /** So many keys in a page, rising from its lower bound, and all else as it should be. */
    private static void fill(Object table, Object page, int used) throws ReflectiveOperationException {
        int[] keys = new int[Math.max(used, 0)];
        for (int i = 0; i < used; i++) {
            keys[i] = read(page, "low") + i;
        }
        set(table, "size", read(table, "size") - read(page, "used") + used);
        set(page, "used", used);
        field(page, "keys").set(page, keys);
    }

    /** The map with one page changed, which is still as it should be. */
    private static void stillSound(String what, Damage change) throws ReflectiveOperationException {
        LazyPages x = some();
        Object map = table(x, "map");
        change.to(map, pages(map));
        due("isSound with " + what, x.isSound());
    }

    private static void noneTooLong() throws ReflectiveOperationException {
        stillSound("a page of 31 keys", (table, pages) -> fill(table, pages[pages.length - 1], 31));
        stillSound("a full page of 32 keys", (table, pages) -> fill(table, pages[pages.length - 1], 32));
        damaged("a page of 33 keys", (table, pages) -> fill(table, pages[pages.length - 1], 33));
        stillSound("a page of no keys", (table, pages) -> fill(table, pages[1], 0));
        damaged("a page of less than no keys", (table, pages) -> fill(table, pages[1], -1));
        damaged("a number of keys that is too small", (table, pages) -> set(table, "size", 299));
        damaged("a number of keys that is too large", (table, pages) -> set(table, "size", 301));
    }

    private static void keysRising() throws ReflectiveOperationException {
        stillSound("a key one above the one before it", (table, pages) -> keys(pages[1])[1] = keys(pages[1])[0] + 1);
        damaged("a key equal to the one before it", (table, pages) -> keys(pages[1])[1] = keys(pages[1])[0]);
        damaged("a key below the one before it", (table, pages) -> keys(pages[1])[3] = keys(pages[1])[2] - 1);
    }

    private static void betweenTheirBounds() throws ReflectiveOperationException {
        stillSound("a key at its lower bound", (table, pages) -> keys(pages[1])[0] = read(pages[1], "low"));
        damaged("a key below its bound", (table, pages) -> keys(pages[1])[0] = read(pages[1], "low") - 1);
        stillSound("a key at its upper bound", (table, pages) ->
            keys(pages[1])[read(pages[1], "used") - 1] = read(pages[1], "high"));
        damaged("a key above its bound", (table, pages) ->
            keys(pages[1])[read(pages[1], "used") - 1] = read(pages[1], "high") + 1);
        stillSound("a key at both of its bounds", (table, pages) -> {
            fill(table, pages[1], 1);
            set(pages[1], "high", read(pages[1], "low"));
            set(pages[2], "low", read(pages[1], "low") + 1);
        });
    }

    private static void boundsSideBySide() throws ReflectiveOperationException {
        damaged("a first page that begins too late", (table, pages) -> set(pages[0], "low", -400));
        damaged("a last page that ends too early", (table, pages) -> set(pages[pages.length - 1], "high", 400));
        damaged("pages with a gap", (table, pages) -> set(pages[1], "low", read(pages[1], "low") + 1));
        damaged("pages that overlap", (table, pages) -> set(pages[1], "low", read(pages[1], "low") - 1));
        damaged("two pages of the same keys", (table, pages) -> {
            set(pages[0], "high", Integer.MAX_VALUE);
            set(pages[1], "low", Integer.MIN_VALUE);
        });
        damaged("a page that ends before it begins", (table, pages) -> {
            fill(table, pages[1], 0);
            set(pages[1], "high", read(pages[1], "low") - 1);
            set(pages[2], "low", read(pages[1], "low"));
        });
    }

    private static void viewsThatAreNone() throws ReflectiveOperationException {
        LazyPages x = some();
        keys(pages(view(x, 1))[1])[3] = 0;
        due("isSound looks at a view", !x.isSound());
        x.drop(1);
        due("isSound looks away from a view that is none", x.isSound());
    }

    /** Few keys in many pages, over and over: pages must be joined before they run out. */
    private static void joining() throws ReflectiveOperationException {
        LazyPages x = new LazyPages();
        int most = 0;
        int fewest = Integer.MAX_VALUE;
        for (int i = 0; i < 70; i++) {
            int begin = i * 1000;
            due("all are accepted", x.putAll(begin, 1, i, 1, 33) == 33);
            x.raise(begin, begin + 40, 1);
            due("all but two go", x.delete(begin + 1, begin + 31) == 31);
            int used = pages(table(x, "map")).length;
            fewest = most == 40 ? Math.min(fewest, used) : fewest;
            most = Math.max(most, used);
            due("isSound", x.isSound());
        }
        due("two are left of each", x.count(-1, Integer.MIN_VALUE, Integer.MAX_VALUE) == 140);
        due("they have their values", x.sum(-1, Integer.MIN_VALUE, Integer.MAX_VALUE) == 2 * 69 * 35 + 70 * 34);
        due("pages are joined when none is spare: " + fewest, fewest < 20);
        due("the pages are all used at some time: " + most, most == 40);
    }

    private static void sentence(String place, String words, Look look) {
        Checks.sentence(place, words, () -> {
            try {
                look.inside();
            } catch (ReflectiveOperationException e) {
                Checks.tell("the inside is not what the test knows: " + e);
            }
        });
    }

    public static void main(String[] args) {
        sentence("Promise 17: settle", "All messages that wait in pages go down to where their keys are", InsideTest::settling);
        sentence("Terms (a page is split)", "how many messages wait in them, and how often they go on, does not show", InsideTest::splitting);
        sentence("Terms (pages are joined)", "how the map is laid out in pages, how many messages wait in them, and how often they go on, does not show", InsideTest::joining);
        sentence("Promise 22: isSound", "none too long", InsideTest::noneTooLong);
        sentence("Promise 22: isSound", "keys rising", InsideTest::keysRising);
        sentence("Promise 22: isSound", "between their bounds", InsideTest::betweenTheirBounds);
        sentence("Promise 22: isSound (bounds side by side)", "between their bounds", InsideTest::boundsSideBySide);
        sentence("Promise 22: isSound (not of views that are none)", "Whether all pages are as they should be", InsideTest::viewsThatAreNone);
        Checks.end();
    }
}
