import java.util.NoSuchElementException;

/**
 * An index of keys with values. An operation is only noted down when it begins, and does all its
 * work when it is finished; so whatever is given up before that has left nothing behind.
 */
public final class LinkedIndex {
    public static final int FIND = 0;
    public static final int PUT = 1;
    public static final int TAKE = 2;
    public static final int NEXT = 3;

    private static final int EMPTY = -1;
    private static final int SLOTS = 8;
    private static final int MOST_KEYS = 100;
    private static final int MOST_STEPS = 20;

    /** In rising order, so that the k-th key and the least key not below another are at hand. */
    private final long[] keys;
    private final long[] values;
    private int keyCount;

    private final int[] slotKinds;
    private final long[] slotKeys;
    private final long[] slotValues;

    public LinkedIndex() {
        keys = new long[MOST_KEYS];
        values = new long[MOST_KEYS];
        keyCount = 0;
        slotKinds = new int[SLOTS];
        slotKeys = new long[SLOTS];
        slotValues = new long[SLOTS];
        for (int slot = 0; slot < SLOTS; slot++) {
            slotKinds[slot] = EMPTY;
        }
    }

    public void begin(int slot, int kind, long key, long value)
            throws IllegalArgumentException, IllegalStateException {
        requireSlot(slot);
        if (kind < FIND || kind > NEXT) {
            throw new IllegalArgumentException("no such kind");
        }
        if (slotKinds[slot] != EMPTY) {
            throw new IllegalStateException("the slot is not empty");
        }
        slotKinds[slot] = kind;
        slotKeys[slot] = key;
        slotValues[slot] = value;
    }

    public void step(int slot, int n) throws IllegalArgumentException, IllegalStateException {
        requireSlot(slot);
        requireSteps(n);
        requireOperation(slot);
        // The last step, which is finish, does all the work: there is none before it.
    }

    public long finish(int slot)
            throws IllegalArgumentException, IllegalStateException, NoSuchElementException {
        requireSlot(slot);
        requireOperation(slot);
        int kind = slotKinds[slot];
        int place = placeOf(slotKeys[slot]);
        if (kind == PUT) {
            return finishPut(slot, place);
        }
        boolean found = kind == NEXT ? place < keyCount : isAt(place, slotKeys[slot]);
        // Before the throw, because the slot is empty even when nothing was found.
        slotKinds[slot] = EMPTY;
        if (!found) {
            throw new NoSuchElementException("no such key");
        }
        if (kind == NEXT) {
            return keys[place];
        }
        long answer = values[place];
        if (kind == TAKE) {
            closeGap(place);
        }
        return answer;
    }

    public boolean drop(int slot) throws IllegalArgumentException {
        requireSlot(slot);
        boolean wasUnderWay = slotKinds[slot] != EMPTY;
        slotKinds[slot] = EMPTY;
        return wasUnderWay;
    }

    public void tidy(int n) throws IllegalArgumentException {
        requireSteps(n);
        // A finished operation leaves no work undone, so there is never any to do here.
    }

    public int crash() {
        int givenUp = 0;
        for (int slot = 0; slot < SLOTS; slot++) {
            if (slotKinds[slot] != EMPTY) {
                slotKinds[slot] = EMPTY;
                givenUp++;
            }
        }
        return givenUp;
    }

    public int kind(int slot) throws IllegalArgumentException {
        requireSlot(slot);
        return slotKinds[slot];
    }

    public int size() {
        return keyCount;
    }

    public long key(int k) throws IndexOutOfBoundsException {
        requirePlace(k);
        return keys[k];
    }

    public long value(int k) throws IndexOutOfBoundsException {
        requirePlace(k);
        return values[k];
    }

    public int count(long from, long to) {
        int answer = 0;
        for (int place = placeOf(from); place < keyCount && keys[place] <= to; place++) {
            answer++;
        }
        return answer;
    }

    public long sum(long from, long to) {
        long answer = 0;
        for (int place = placeOf(from); place < keyCount && keys[place] <= to; place++) {
            answer += values[place];
        }
        return answer;
    }

    private static void requireSlot(int slot) {
        if (slot < 0 || slot >= SLOTS) {
            throw new IllegalArgumentException("no such slot");
        }
    }

    private static void requireSteps(int n) {
        if (n < 0 || n > MOST_STEPS) {
            throw new IllegalArgumentException("n is not 0 .. 20");
        }
    }

    private void requireOperation(int slot) {
        if (slotKinds[slot] == EMPTY) {
            throw new IllegalStateException("the slot is empty");
        }
    }

    private void requirePlace(int k) {
        if (k < 0 || k >= keyCount) {
            throw new IndexOutOfBoundsException("no such key");
        }
    }

    /** How many keys are below this one: where it stands, or where it would be put in. */
    private int placeOf(long key) {
        int place = 0;
        while (place < keyCount && keys[place] < key) {
            place++;
        }
        return place;
    }

    private boolean isAt(int place, long key) {
        return place < keyCount && keys[place] == key;
    }

    private long finishPut(int slot, int place) {
        boolean wasThere = isAt(place, slotKeys[slot]);
        if (!wasThere) {
            // Unlike a key that is not found, a full index leaves the operation in its slot.
            if (keyCount >= MOST_KEYS) {
                throw new IllegalStateException("there are 100 keys");
            }
            openGap(place);
            keys[place] = slotKeys[slot];
        }
        values[place] = slotValues[slot];
        slotKinds[slot] = EMPTY;
        return wasThere ? 1 : 0;
    }

    private void openGap(int place) {
        for (int i = keyCount; i > place; i--) {
            keys[i] = keys[i - 1];
            values[i] = values[i - 1];
        }
        keyCount++;
    }

    private void closeGap(int place) {
        keyCount--;
        for (int i = place; i < keyCount; i++) {
            keys[i] = keys[i + 1];
            values[i] = values[i + 1];
        }
    }
}
