import java.lang.reflect.Field;

/**
 * What no call shows of promises 17 and 22: that messages do wait and that settle sends them down,
 * and that isSound sees a page that is not as it should be. Looks into the object for this.
 */
public final class InsideTest {
    private static int wrong = 0;

    private interface Damage {
        void to(Object table, Object[] pages) throws ReflectiveOperationException;
    }

    private static Field field(Object owner, String name) throws ReflectiveOperationException {
        Field field = owner.getClass().getDeclaredField(name);
        field.setAccessible(true);
        return field;
    }

    private static Object table(LazyPages x, String name) throws ReflectiveOperationException {
        return field(x, name).get(x);
    }

    private static Object[] pages(Object table) throws ReflectiveOperationException {
        Object[] all = (Object[]) field(table, "pages").get(table);
        return java.util.Arrays.copyOf(all, field(table, "pageCount").getInt(table));
    }

    private static int[] keys(Object page) throws ReflectiveOperationException {
        return (int[]) field(page, "keys").get(page);
    }

    private static void set(Object owner, String name, int value) throws ReflectiveOperationException {
        field(owner, name).setInt(owner, value);
    }

    private static int read(Object owner, String name) throws ReflectiveOperationException {
        return field(owner, name).getInt(owner);
    }

    private static int waitingPages(LazyPages x) throws ReflectiveOperationException {
        int waiting = 0;
        for (Object page : pages(table(x, "map"))) {
            waiting += field(page, "waiting").getLong(page) == 0 ? 0 : 1;
        }
        return waiting;
    }

    private static void due(String what, boolean holds) {
        if (!holds) {
            wrong++;
            System.out.println("not so: " + what);
        }
    }

    private static LazyPages some() {
        LazyPages x = new LazyPages();
        x.putAll(-300, 2, 5, 3, 300);
        x.save(1);
        x.sync();
        return x;
    }

    private static void settling() throws ReflectiveOperationException {
        LazyPages x = some();
        x.raise(-250, 250, 7);
        due("a raise waits in whole pages", waitingPages(x) > 1);
        long before = x.sum(-1, -300, 300);
        x.settle();
        due("nothing waits after settle", waitingPages(x) == 0);
        due("settle changes no sum", x.sum(-1, -300, 300) == before);
    }

    private static void damaged(String what, String name, Damage damage) throws ReflectiveOperationException {
        LazyPages x = some();
        Object table = name.equals("views") ? ((Object[]) table(x, name))[1] : table(x, name);
        due("isSound before " + what, x.isSound());
        damage.to(table, pages(table));
        due("isSound does not see " + what + " in " + name, !x.isSound());
    }

    private static void damagedEverywhere(String what, Damage damage) throws ReflectiveOperationException {
        damaged(what, "map", damage);
        damaged(what, "kept", damage);
        damaged(what, "views", damage);
    }

    private static void soundness() throws ReflectiveOperationException {
        damagedEverywhere("a page that is too long", (table, pages) -> set(pages[1], "used", 33));
        damagedEverywhere("a page of less than no keys", (table, pages) -> set(pages[1], "used", -1));
        damagedEverywhere("two equal keys", (table, pages) -> keys(pages[1])[3] = keys(pages[1])[2]);
        damagedEverywhere("falling keys", (table, pages) -> keys(pages[1])[3] = keys(pages[1])[2] - 1);
        damagedEverywhere("a key below its bound", (table, pages) -> keys(pages[1])[0] = read(pages[1], "low") - 1);
        damagedEverywhere("a key above its bound", (table, pages) ->
            keys(pages[1])[read(pages[1], "used") - 1] = read(pages[1], "high") + 1);
        damagedEverywhere("a first page that begins too late", (table, pages) -> set(pages[0], "low", -400));
        damagedEverywhere("a last page that ends too early", (table, pages) -> set(pages[pages.length - 1], "high", 400));
        damagedEverywhere("pages with a gap", (table, pages) -> set(pages[1], "low", read(pages[1], "low") - 1));
        damagedEverywhere("a page that ends before it begins", (table, pages) -> {
            set(pages[0], "used", 0);
            set(pages[0], "high", Integer.MIN_VALUE);
            set(pages[0], "low", Integer.MAX_VALUE);
        });
        damagedEverywhere("a wrong number of keys", (table, pages) -> set(table, "size", 299));
        LazyPages x = some();
        keys(pages(((Object[]) table(x, "views"))[1])[1])[3] = 0;
        x.drop(1);
        due("isSound looks away from a view that is none", x.isSound());
    }

    /** Few keys in many pages, over and over: pages must be joined before they run out. */
    private static void joining() throws ReflectiveOperationException {
        LazyPages x = new LazyPages();
        int most = 0;
        int fewest = Integer.MAX_VALUE;
        for (int i = 0; i < 70; i++) {
            int begin = i * 1000;
            due("all are accepted", x.putAll(begin, 1, i, 1, 33) == 33);
            x.raise(begin, begin + 40, 1);
            due("all but two go", x.delete(begin + 1, begin + 31) == 31);
            int used = pages(table(x, "map")).length;
            fewest = most == 40 ? Math.min(fewest, used) : fewest;
            most = Math.max(most, used);
            due("isSound", x.isSound());
        }
        due("two are left of each", x.count(-1, Integer.MIN_VALUE, Integer.MAX_VALUE) == 140);
        due("they have their values", x.sum(-1, Integer.MIN_VALUE, Integer.MAX_VALUE) == 2 * 69 * 35 + 70 * 34);
        due("pages are joined when none is spare: " + fewest, fewest < 20);
        due("the pages are all used at some time: " + most, most == 40);
    }

    public static void main(String[] args) throws ReflectiveOperationException {
        settling();
        soundness();
        joining();
        System.out.println(wrong == 0 ? "the inside is as due" : wrong + " things are not as due");
        System.exit(wrong == 0 ? 0 : 1);
    }
}
