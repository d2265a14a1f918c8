/**
 * A map from ints to longs that takes its changes as messages, single ones and for whole ranges;
 * views of it as it was at some moment; what was kept comes again when all else is lost.
 */
public final class LazyPages {
    public static final int NONE = -1;

    private static final int THE_MAP = -1;
    private static final int VIEW_LIMIT = 4;
    private static final int KEY_LIMIT = 600;
    private static final int MESSAGE_LIMIT = 2500;
    private static final int BATCH_LIMIT = 300;
    private static final int PAGE_LENGTH = 32;
    /**
     * After joinPages any two neighbours hold more than PAGE_LENGTH keys together, so that 600 keys
     * then lie in 37 pages at most: with 40 there is always one to spare.
     */
    private static final int PAGE_LIMIT = 40;

    private final PageTable map;
    private final PageTable kept;
    private final PageTable[] views;
    private final boolean[] saved;
    private int messages;
    private int keptMessages;

    public LazyPages() {
        map = new PageTable();
        kept = new PageTable();
        views = new PageTable[VIEW_LIMIT];
        for (int i = 0; i < VIEW_LIMIT; i++) {
            views[i] = new PageTable();
        }
        saved = new boolean[VIEW_LIMIT];
        messages = 0;
        keptMessages = 0;
    }

    public int put(int key, long value) throws UnsupportedOperationException {
        requireAccepted(key);
        acceptValue(key, value);
        return messages;
    }

    public long add(int key, long more) throws UnsupportedOperationException {
        requireAccepted(key);
        long value = map.valueOf(key) + more;
        acceptValue(key, value);
        return value;
    }

    public long most(int key, long value) throws UnsupportedOperationException {
        requireAccepted(key);
        long greater = map.holds(key) ? Math.max(map.valueOf(key), value) : value;
        acceptValue(key, greater);
        return greater;
    }

    public int delete(int from, int to) throws IllegalArgumentException, UnsupportedOperationException {
        requireRange(from, to);
        requireRoomFor(1);
        int before = map.size;
        map.removeIn(from, to);
        messages++;
        return before - map.size;
    }

    public int raise(int from, int to, long more) throws IllegalArgumentException, UnsupportedOperationException {
        requireRange(from, to);
        requireRoomFor(1);
        map.raiseIn(from, to, more);
        messages++;
        return map.countIn(from, to);
    }

    public int putAll(int key, int step, long value, long grow, int n) throws IllegalArgumentException {
        if (n < 0 || n > BATCH_LIMIT) {
            throw new IllegalArgumentException("n is not 0 .. 300");
        }
        for (int i = 0; i < n; i++) {
            int next = key + i * step;
            if (!accepts(next)) {
                return i;
            }
            acceptValue(next, value + i * grow);
        }
        return n;
    }

    public boolean has(int view, int key) throws IndexOutOfBoundsException {
        return tableOf(view).holds(key);
    }

    public long get(int view, int key) throws IndexOutOfBoundsException {
        return tableOf(view).valueOf(key);
    }

    public int count(int view, int from, int to) throws IndexOutOfBoundsException, IllegalArgumentException {
        PageTable table = tableOf(view);
        requireRange(from, to);
        return table.countIn(from, to);
    }

    public long sum(int view, int from, int to) throws IndexOutOfBoundsException, IllegalArgumentException {
        PageTable table = tableOf(view);
        requireRange(from, to);
        return table.sumIn(from, to);
    }

    public int key(int view, int from, int k) throws IndexOutOfBoundsException, IllegalArgumentException {
        PageTable table = tableOf(view);
        int notBelow = table.countIn(from, Integer.MAX_VALUE);
        if (k < 0 || k >= notBelow) {
            throw new IllegalArgumentException("there are not so many keys, or k is below 0");
        }
        return table.keyAt(table.size - notBelow + k);
    }

    public void save(int view) throws IndexOutOfBoundsException {
        requireViewNumber(view);
        views[view].copyFrom(map);
        saved[view] = true;
    }

    public boolean drop(int view) throws IndexOutOfBoundsException {
        requireViewNumber(view);
        boolean wasOne = saved[view];
        saved[view] = false;
        return wasOne;
    }

    public int restore(int view) throws IndexOutOfBoundsException, UnsupportedOperationException {
        PageTable table = savedView(view);
        int needed = 1 + table.size;
        requireRoomFor(needed);
        // The one DELETE and the PUTs make just what the view has, so its pages are taken as they are.
        map.copyFrom(table);
        messages += needed;
        return messages;
    }

    public int differ(int view, int other) throws IndexOutOfBoundsException {
        PageTable one = tableOf(view);
        PageTable another = tableOf(other);
        return one.differencesFrom(another);
    }

    public void settle() {
        map.pushAllDown();
    }

    public int sync() {
        return keepMessages();
    }

    public int checkpoint() {
        return keepMessages();
    }

    public int crash() {
        int lost = messages - keptMessages;
        map.copyFrom(kept);
        messages = keptMessages;
        for (int i = 0; i < VIEW_LIMIT; i++) {
            saved[i] = false;
        }
        return lost;
    }

    public int total(int what) throws IllegalArgumentException {
        switch (what) {
            case 0:
                return messages;
            case 1:
                return keptMessages;
            case 2:
                return savedViews();
            default:
                throw new IllegalArgumentException("what is not 0 .. 2");
        }
    }

    public boolean isSound() {
        boolean sound = map.isInOrder() && kept.isInOrder();
        for (int i = 0; i < VIEW_LIMIT; i++) {
            sound = sound && (!saved[i] || views[i].isInOrder());
        }
        return sound;
    }

    private boolean accepts(int key) {
        return messages < MESSAGE_LIMIT && (map.size < KEY_LIMIT || map.holds(key));
    }

    private void requireAccepted(int key) {
        if (!accepts(key)) {
            throw new UnsupportedOperationException("the message is refused");
        }
    }

    private void requireRoomFor(int more) {
        if (more > MESSAGE_LIMIT - messages) {
            throw new UnsupportedOperationException("there would be too many messages");
        }
    }

    private static void requireRange(int from, int to) {
        if (from > to) {
            throw new IllegalArgumentException("from is above to");
        }
    }

    private static void requireViewNumber(int view) {
        if (view < 0 || view >= VIEW_LIMIT) {
            throw new IndexOutOfBoundsException("the view is not 0 .. 3");
        }
    }

    private void acceptValue(int key, long value) {
        map.write(key, value);
        messages++;
    }

    private PageTable tableOf(int view) {
        return view == THE_MAP ? map : savedView(view);
    }

    private PageTable savedView(int view) {
        requireViewNumber(view);
        if (!saved[view]) {
            throw new IndexOutOfBoundsException("the view is none");
        }
        return views[view];
    }

    private int savedViews() {
        int found = 0;
        for (int i = 0; i < VIEW_LIMIT; i++) {
            if (saved[i]) {
                found++;
            }
        }
        return found;
    }

    /**
     * What the kept messages make is held, not the messages: so none has to be done again after a
     * crash, and sync and checkpoint can be one.
     */
    private int keepMessages() {
        int fresh = messages - keptMessages;
        if (fresh > 0) {
            kept.copyFrom(map);
            keptMessages = messages;
        }
        return fresh;
    }

    /** A map in pages that lie side by side, from the lowest int to the highest one. */
    private static final class PageTable {
        final Page[] pages;
        int pageCount;
        int size;

        PageTable() {
            pages = new Page[PAGE_LIMIT];
            for (int i = 0; i < PAGE_LIMIT; i++) {
                pages[i] = new Page();
            }
            pageCount = 1;
            size = 0;
        }

        int pageOf(int key) {
            int index = 0;
            while (index < pageCount - 1 && pages[index].high < key) {
                index++;
            }
            return index;
        }

        boolean holds(int key) {
            Page page = pages[pageOf(key)];
            return page.holdsAt(page.below(key), key);
        }

        long valueOf(int key) {
            Page page = pages[pageOf(key)];
            int place = page.below(key);
            return page.holdsAt(place, key) ? page.valueAt(place) : 0;
        }

        void write(int key, long value) {
            Page page = pages[pageOf(key)];
            if (page.holdsAt(page.below(key), key)) {
                page.setValueAt(page.below(key), value);
                return;
            }
            if (page.used == PAGE_LENGTH) {
                splitPageOf(key);
                page = pages[pageOf(key)];
            }
            page.insertAt(page.below(key), key, value);
            size++;
        }

        /** The page must be full: joining then leaves it full, as only empty ones fit to it. */
        void splitPageOf(int key) {
            if (pageCount == PAGE_LIMIT) {
                joinPages();
            }
            int index = pageOf(key);
            Page spare = pages[pageCount];
            for (int i = pageCount; i > index + 1; i--) {
                pages[i] = pages[i - 1];
            }
            pages[index + 1] = spare;
            pageCount++;
            pages[index].giveUpperHalfTo(spare);
        }

        /** Pages are swapped, never left out or doubled: the emptied ones are the spare ones. */
        void joinPages() {
            int last = 0;
            for (int i = 1; i < pageCount; i++) {
                Page next = pages[i];
                if (pages[last].used + next.used <= PAGE_LENGTH) {
                    pages[last].takeAllOf(next);
                } else {
                    last++;
                    pages[i] = pages[last];
                    pages[last] = next;
                }
            }
            pageCount = last + 1;
        }

        void removeIn(int from, int to) {
            int last = pageOf(to);
            for (int i = pageOf(from); i <= last; i++) {
                size -= pages[i].countIn(from, to);
                pages[i].removeIn(from, to);
            }
        }

        void raiseIn(int from, int to, long more) {
            int last = pageOf(to);
            for (int i = pageOf(from); i <= last; i++) {
                pages[i].raiseIn(from, to, more);
            }
        }

        int countIn(int from, int to) {
            int last = pageOf(to);
            int found = 0;
            for (int i = pageOf(from); i <= last; i++) {
                found += pages[i].countIn(from, to);
            }
            return found;
        }

        long sumIn(int from, int to) {
            int last = pageOf(to);
            long whole = 0;
            for (int i = pageOf(from); i <= last; i++) {
                whole += pages[i].sumIn(from, to);
            }
            return whole;
        }

        /** The rank must be 0 .. size - 1. */
        int keyAt(int rank) {
            int index = 0;
            int place = rank;
            while (index < pageCount - 1 && place >= pages[index].used) {
                place -= pages[index].used;
                index++;
            }
            return pages[index].keys[place];
        }

        int differencesFrom(PageTable other) {
            int inBoth = 0;
            int changed = 0;
            for (int i = 0; i < pageCount; i++) {
                Page page = pages[i];
                for (int place = 0; place < page.used; place++) {
                    int key = page.keys[place];
                    if (other.holds(key)) {
                        inBoth++;
                        changed += other.valueOf(key) == page.valueAt(place) ? 0 : 1;
                    }
                }
            }
            return (size - inBoth) + (other.size - inBoth) + changed;
        }

        void pushAllDown() {
            for (int i = 0; i < pageCount; i++) {
                pages[i].pushDown();
            }
        }

        void copyFrom(PageTable other) {
            pageCount = other.pageCount;
            size = other.size;
            for (int i = 0; i < pageCount; i++) {
                pages[i].copyFrom(other.pages[i]);
            }
        }

        boolean isInOrder() {
            int found = 0;
            for (int i = 0; i < pageCount; i++) {
                if (!pages[i].isInOrder() || !isNextTo(i)) {
                    return false;
                }
                found += pages[i].used;
            }
            return found == size && size <= KEY_LIMIT && pages[pageCount - 1].high == Integer.MAX_VALUE;
        }

        /** Whether a page begins where the one before it ends: no key has two pages, and none has none. */
        boolean isNextTo(int index) {
            if (index == 0) {
                return pages[0].low == Integer.MIN_VALUE;
            }
            int end = pages[index - 1].high;
            return end < Integer.MAX_VALUE && pages[index].low == end + 1;
        }
    }

    /** Those of the keys low .. high that are there, rising, with their values. */
    private static final class Page {
        final int[] keys;
        final long[] values;
        int used;
        int low;
        int high;
        /** All RAISEs of the whole page that have not gone down: a value is what is in its row and this. */
        long waiting;

        Page() {
            keys = new int[PAGE_LENGTH];
            values = new long[PAGE_LENGTH];
            used = 0;
            low = Integer.MIN_VALUE;
            high = Integer.MAX_VALUE;
            waiting = 0;
        }

        int below(int key) {
            int place = 0;
            while (place < used && keys[place] < key) {
                place++;
            }
            return place;
        }

        int notAbove(int key) {
            int place = below(key);
            return holdsAt(place, key) ? place + 1 : place;
        }

        int countIn(int from, int to) {
            return notAbove(to) - below(from);
        }

        boolean holdsAt(int place, int key) {
            return place < used && keys[place] == key;
        }

        long valueAt(int place) {
            return values[place] + waiting;
        }

        /** What waits here came before this value, so it is taken off beforehand. */
        void setValueAt(int place, long value) {
            values[place] = value - waiting;
        }

        /** The page must not be full. */
        void insertAt(int place, int key, long value) {
            System.arraycopy(keys, place, keys, place + 1, used - place);
            System.arraycopy(values, place, values, place + 1, used - place);
            used++;
            keys[place] = key;
            setValueAt(place, value);
        }

        void removeIn(int from, int to) {
            int first = below(from);
            int end = notAbove(to);
            System.arraycopy(keys, end, keys, first, used - end);
            System.arraycopy(values, end, values, first, used - end);
            used -= end - first;
        }

        void raiseIn(int from, int to, long more) {
            int first = below(from);
            int end = notAbove(to);
            if (first == 0 && end == used) {
                waiting += more;
                return;
            }
            for (int place = first; place < end; place++) {
                values[place] += more;
            }
        }

        long sumIn(int from, int to) {
            int end = notAbove(to);
            long whole = 0;
            for (int place = below(from); place < end; place++) {
                whole += valueAt(place);
            }
            return whole;
        }

        void pushDown() {
            for (int place = 0; place < used; place++) {
                values[place] += waiting;
            }
            waiting = 0;
        }

        /** The page must be full: then neither half is empty. */
        void giveUpperHalfTo(Page right) {
            int half = used / 2;
            right.used = used - half;
            System.arraycopy(keys, half, right.keys, 0, right.used);
            System.arraycopy(values, half, right.values, 0, right.used);
            right.waiting = waiting;
            right.low = keys[half];
            right.high = high;
            high = keys[half] - 1;
            used = half;
        }

        /** The right one must be the next page, and both must fit into one. */
        void takeAllOf(Page right) {
            System.arraycopy(right.keys, 0, keys, used, right.used);
            for (int place = 0; place < right.used; place++) {
                setValueAt(used + place, right.valueAt(place));
            }
            used += right.used;
            high = right.high;
        }

        /** Messages go to the map alone, so that nothing may wait in the pages of a copy. */
        void copyFrom(Page other) {
            used = other.used;
            low = other.low;
            high = other.high;
            System.arraycopy(other.keys, 0, keys, 0, used);
            System.arraycopy(other.values, 0, values, 0, used);
            waiting = other.waiting;
            pushDown();
        }

        boolean isInOrder() {
            if (used < 0 || used > PAGE_LENGTH || low > high) {
                return false;
            }
            for (int place = 0; place < used; place++) {
                if (keys[place] < low || keys[place] > high) {
                    return false;
                }
                if (place > 0 && keys[place - 1] >= keys[place]) {
                    return false;
                }
            }
            return true;
        }
    }
}
