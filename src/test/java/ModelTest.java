import java.util.Map;
import java.util.NoSuchElementException;
import java.util.Random;
import java.util.TreeMap;

/** Long mixed runs, each call compared with a map that knows of no steps. */
public final class ModelTest {
    private static final int RUNS = 2000;
    // With the calls of fill (196) and wholeState (at most 209) an object stays under its 512 calls.
    private static final int MIXED_CALLS = 300;
    private static final int MIXED_CALLS_AFTER_FILL = 100;

    private final Random random;
    private final long keyRange;
    private final int takeShare;
    private final String name;
    private final LinkedIndex index = new LinkedIndex();
    private final TreeMap<Long, Long> model = new TreeMap<>();
    private final int[] kinds = {-1, -1, -1, -1, -1, -1, -1, -1};
    private final long[] keys = new long[8];
    private final long[] values = new long[8];

    private ModelTest(int run) {
        // The seed is the run's number, so that a wrong run is the same each time.
        random = new Random(run);
        keyRange = new long[] {3, 20, 150, 5000}[run % 4];
        takeShare = new int[] {5, 25, 45}[run % 3];
        name = "run " + run + ": ";
    }

    public static void main(String[] args) {
        boolean wasFull = false;
        for (int run = 0; run < RUNS; run++) {
            ModelTest test = new ModelTest(run);
            if (run % 5 == 0) {
                test.fill();
            }
            wasFull |= test.mixedCalls();
            test.wholeState();
        }
        Checks.due("some run filled the index", wasFull, true);
        Checks.end();
    }

    /** Leaves two places free, so that the calls after it meet the limit from both sides. */
    private void fill() {
        for (int i = 0; i < 98; i++) {
            index.begin(i % 8, LinkedIndex.PUT, i, -i);
            index.finish(i % 8);
            model.put((long) i, (long) -i);
        }
    }

    private boolean mixedCalls() {
        boolean wasFull = false;
        int calls = model.isEmpty() ? MIXED_CALLS : MIXED_CALLS_AFTER_FILL;
        for (int i = 0; i < calls; i++) {
            int slot = random.nextInt(100) == 0 ? random.nextInt(20) - 6 : random.nextInt(8);
            switch (random.nextInt(12)) {
                case 0, 1, 2 -> begin(slot);
                case 3, 4, 5 -> finish(slot);
                case 6, 7 -> step(slot);
                case 8 -> rareCall(slot);
                case 9 -> range();
                case 10 -> place();
                default -> slotKind(slot);
            }
            wasFull |= model.size() == 100;
        }
        return wasFull;
    }

    private long someKey() {
        int share = random.nextInt(40);
        if (share == 0) {
            return Long.MIN_VALUE;
        }
        if (share == 1) {
            return Long.MAX_VALUE;
        }
        return random.nextInt((int) keyRange) - (share < 20 ? 0 : keyRange / 3);
    }

    private int someKind() {
        int share = random.nextInt(100);
        if (share < 2) {
            return random.nextInt(20) - 8;
        }
        if (share < 2 + takeShare) {
            return LinkedIndex.TAKE;
        }
        return share < 80 ? LinkedIndex.PUT : share < 90 ? LinkedIndex.FIND : LinkedIndex.NEXT;
    }

    private static boolean isSlot(int slot) {
        return slot >= 0 && slot < 8;
    }

    private void begin(int slot) {
        int kind = someKind();
        long key = someKey();
        long value = random.nextLong();
        String due = "nothing";
        if (!isSlot(slot) || kind < 0 || kind > 3) {
            due = IllegalArgumentException.class.getName();
        } else if (kinds[slot] != -1) {
            due = IllegalStateException.class.getName();
        } else {
            kinds[slot] = kind;
            keys[slot] = key;
            values[slot] = value;
        }
        String got = Checks.thrown(() -> index.begin(slot, kind, key, value));
        Checks.due(name + "begin(" + slot + ", " + kind + ", " + key + ", " + value + ") throws", got, due);
    }

    private void finish(int slot) {
        String got;
        try {
            got = Long.toString(index.finish(slot));
        } catch (RuntimeException e) {
            got = e.getClass().getName();
        }
        Checks.due(name + "finish(" + slot + ")", got, dueOfFinish(slot));
    }

    private String dueOfFinish(int slot) {
        if (!isSlot(slot)) {
            return IllegalArgumentException.class.getName();
        }
        int kind = kinds[slot];
        long key = keys[slot];
        boolean fullPut = kind == LinkedIndex.PUT && !model.containsKey(key) && model.size() == 100;
        if (kind == -1 || fullPut) {
            return IllegalStateException.class.getName();
        }
        kinds[slot] = -1;
        if (kind == LinkedIndex.PUT) {
            return model.put(key, values[slot]) == null ? "0" : "1";
        }
        Long answer = kind == LinkedIndex.NEXT ? model.ceilingKey(key)
            : kind == LinkedIndex.TAKE ? model.remove(key) : model.get(key);
        return answer == null ? NoSuchElementException.class.getName() : answer.toString();
    }

    private void step(int slot) {
        int n = random.nextInt(24) - 1;
        String due = "nothing";
        if (!isSlot(slot) || n < 0 || n > 20) {
            due = IllegalArgumentException.class.getName();
        } else if (kinds[slot] == -1) {
            due = IllegalStateException.class.getName();
        }
        Checks.due(name + "step(" + slot + ", " + n + ") throws", Checks.thrown(() -> index.step(slot, n)), due);
    }

    private void rareCall(int slot) {
        int share = random.nextInt(20);
        if (share == 0) {
            crash();
        } else if (share < 10) {
            drop(slot);
        } else {
            tidy();
        }
    }

    private void crash() {
        int due = 0;
        for (int slot = 0; slot < 8; slot++) {
            due += kinds[slot] == -1 ? 0 : 1;
            kinds[slot] = -1;
        }
        Checks.due(name + "crash()", index.crash(), due);
    }

    private void drop(int slot) {
        if (!isSlot(slot)) {
            Checks.illegalArgument(name + "drop(" + slot + ")", () -> index.drop(slot));
            return;
        }
        Checks.due(name + "drop(" + slot + ")", index.drop(slot), kinds[slot] != -1);
        kinds[slot] = -1;
    }

    private void tidy() {
        int n = random.nextInt(24) - 1;
        String due = n < 0 || n > 20 ? IllegalArgumentException.class.getName() : "nothing";
        Checks.due(name + "tidy(" + n + ") throws", Checks.thrown(() -> index.tidy(n)), due);
    }

    private void slotKind(int slot) {
        if (isSlot(slot)) {
            Checks.due(name + "kind(" + slot + ")", index.kind(slot), kinds[slot]);
        } else {
            Checks.illegalArgument(name + "kind(" + slot + ")", () -> index.kind(slot));
        }
    }

    private void range() {
        long from = someKey();
        long to = someKey();
        int count = 0;
        long sum = 0;
        if (from <= to) {
            for (long value : model.subMap(from, true, to, true).values()) {
                count++;
                sum += value;
            }
        }
        if (random.nextBoolean()) {
            Checks.due(name + "count(" + from + ", " + to + ")", index.count(from, to), count);
        } else {
            Checks.due(name + "sum(" + from + ", " + to + ")", index.sum(from, to), sum);
        }
    }

    private void place() {
        int k = random.nextInt(model.size() + 2) - 1;
        if (k < 0 || k >= model.size()) {
            Checks.outOfBounds(name + "key(" + k + ")", () -> index.key(k));
            return;
        }
        Checks.due(name + "key(" + k + ")", index.key(k), model.keySet().toArray()[k]);
    }

    private void wholeState() {
        for (int slot = 0; slot < 8; slot++) {
            slotKind(slot);
        }
        Checks.due(name + "size()", index.size(), model.size());
        int k = 0;
        for (Map.Entry<Long, Long> entry : model.entrySet()) {
            Checks.due(name + "key(" + k + ")", index.key(k), entry.getKey());
            Checks.due(name + "value(" + k + ")", index.value(k), entry.getValue());
            k++;
        }
    }
}
