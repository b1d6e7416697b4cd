/** Indexes that several tests begin with, short forms of calls, and texts of what an index holds. */
final class Indexes {
    static final long LEAST = Long.MIN_VALUE;
    static final long GREATEST = Long.MAX_VALUE;
    static final int[] NOT_SLOTS = {Integer.MIN_VALUE, -1, 8, Integer.MAX_VALUE};
    static final int[] NOT_KINDS = {Integer.MIN_VALUE, -1, 4, Integer.MAX_VALUE};
    static final int[] NOT_STEPS = {Integer.MIN_VALUE, -1, 21, Integer.MAX_VALUE};
    static final String ALL_EMPTY = "-1 -1 -1 -1 -1 -1 -1 -1";

    private Indexes() {
    }

    static long find(LinkedIndex index, long key) {
        return whole(index, LinkedIndex.FIND, key, 0);
    }

    static long put(LinkedIndex index, long key, long value) {
        return whole(index, LinkedIndex.PUT, key, value);
    }

    static long take(LinkedIndex index, long key) {
        return whole(index, LinkedIndex.TAKE, key, 0);
    }

    static long next(LinkedIndex index, long key) {
        return whole(index, LinkedIndex.NEXT, key, 0);
    }

    private static long whole(LinkedIndex index, int kind, long key, long value) {
        index.begin(0, kind, key, value);
        return index.finish(0);
    }

    /** Each key has ten times itself as its value. */
    static LinkedIndex withKeys(long... keys) {
        LinkedIndex index = new LinkedIndex();
        for (long key : keys) {
            put(index, key, key * 10);
        }
        return index;
    }

    /** The keys 0, 2, 4 .. in an order that is neither rising nor falling; key 2i has value 1000 + i. */
    static LinkedIndex withManyKeys(int count) {
        LinkedIndex index = new LinkedIndex();
        for (int i = 0; i < 100; i++) {
            int place = i * 37 % 100;
            if (place < count) {
                put(index, 2L * place, 1000L + place);
            }
        }
        return index;
    }

    /** 100 keys, 0 .. 198, by 200 calls. */
    static LinkedIndex full() {
        return withManyKeys(100);
    }

    /** Three keys, and an operation of each kind in the slots 0 .. 3. */
    static LinkedIndex underWay() {
        LinkedIndex index = withKeys(10, 20, 30);
        index.begin(0, LinkedIndex.FIND, 20, 1);
        index.begin(1, LinkedIndex.PUT, 15, 150);
        index.begin(2, LinkedIndex.TAKE, 30, 2);
        index.begin(3, LinkedIndex.NEXT, 11, 3);
        return index;
    }

    /** Three keys, and an operation in each of the eight slots. */
    static LinkedIndex allUnderWay() {
        LinkedIndex index = underWay();
        index.begin(4, LinkedIndex.FIND, 15, 4);
        index.begin(5, LinkedIndex.PUT, 10, 101);
        index.begin(6, LinkedIndex.TAKE, 20, 5);
        index.begin(7, LinkedIndex.NEXT, 31, 6);
        return index;
    }

    static String text(LinkedIndex index) {
        StringBuilder text = new StringBuilder();
        int size = index.size();
        for (int k = 0; k < size; k++) {
            text.append(index.key(k)).append('=').append(index.value(k)).append(' ');
        }
        return text.toString().trim();
    }

    static String kinds(LinkedIndex index) {
        StringBuilder text = new StringBuilder();
        for (int slot = 0; slot < 8; slot++) {
            text.append(index.kind(slot)).append(' ');
        }
        return text.toString().trim();
    }

    static String finished(LinkedIndex index, int slot) {
        try {
            return Long.toString(index.finish(slot));
        } catch (RuntimeException e) {
            return e.getClass().getSimpleName();
        }
    }

    /**
     * All that can still be seen of an index: its operations, what each answers when it is finished
     * (which shows the key and the value that it had), and the keys after that. At most 217 calls.
     */
    static String everything(LinkedIndex index) {
        StringBuilder text = new StringBuilder(kinds(index));
        for (int slot = 0; slot < 8; slot++) {
            text.append(", ").append(finished(index, slot));
        }
        return text.append(", ").append(text(index)).toString();
    }
}
