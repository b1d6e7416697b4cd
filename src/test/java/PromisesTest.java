/** Promise by promise: ordinary inputs, the edges that the document names, and wrong inputs. */
public final class PromisesTest {
    private static final long LEAST = Long.MIN_VALUE;
    private static final long GREATEST = Long.MAX_VALUE;
    private static final int[] NO_SLOTS = {Integer.MIN_VALUE, -1, 8, Integer.MAX_VALUE};
    private static final int[] NO_STEPS = {Integer.MIN_VALUE, -1, 21, Integer.MAX_VALUE};

    public static void main(String[] args) {
        newObject();
        begin();
        beginRefused();
        step();
        stepRefused();
        finishFind();
        finishPut();
        finishPutIntoFull();
        finishTake();
        finishNext();
        finishRefused();
        finishSeesWhatFinishedBefore();
        drop();
        tidy();
        crash();
        kind();
        size();
        keyAndValue();
        keyAndValueOutOfBounds();
        count();
        sum();
        objectsApart();
        Checks.end();
    }

    private static long put(LinkedIndex x, long key, long value) {
        x.begin(0, LinkedIndex.PUT, key, value);
        return x.finish(0);
    }

    private static long take(LinkedIndex x, long key) {
        x.begin(0, LinkedIndex.TAKE, key, 0);
        return x.finish(0);
    }

    private static long next(LinkedIndex x, long key) {
        x.begin(0, LinkedIndex.NEXT, key, 0);
        return x.finish(0);
    }

    private static LinkedIndex withKeys(long... keys) {
        LinkedIndex x = new LinkedIndex();
        for (long key : keys) {
            put(x, key, key * 10);
        }
        return x;
    }

    private static LinkedIndex full() {
        LinkedIndex x = new LinkedIndex();
        for (int i = 0; i < 100; i++) {
            put(x, (i * 37) % 100 * 2, i);
        }
        return x;
    }

    private static String text(LinkedIndex x) {
        StringBuilder text = new StringBuilder();
        for (int k = 0; k < x.size(); k++) {
            text.append(x.key(k)).append('=').append(x.value(k)).append(' ');
        }
        return text.toString().trim();
    }

    private static String kinds(LinkedIndex x) {
        StringBuilder text = new StringBuilder();
        for (int slot = 0; slot < 8; slot++) {
            text.append(x.kind(slot)).append(' ');
        }
        return text.toString().trim();
    }

    private static void newObject() {
        LinkedIndex x = new LinkedIndex();
        Checks.due("1: size of a new object", x.size(), 0);
        Checks.due("1: kinds of a new object", kinds(x), "-1 -1 -1 -1 -1 -1 -1 -1");
        Checks.due("1: count of a new object", x.count(LEAST, GREATEST), 0);
        Checks.due("1: sum of a new object", x.sum(LEAST, GREATEST), 0L);
        Checks.due("1: crash of a new object", x.crash(), 0);
        Checks.outOfBounds("1: key(0) of a new object", () -> x.key(0));
    }

    private static void begin() {
        LinkedIndex x = withKeys(5);
        for (int slot = 0; slot < 8; slot++) {
            x.begin(slot, slot % 4, 5, 7);
        }
        Checks.due("2: kinds of what began", kinds(x), "0 1 2 3 0 1 2 3");
        Checks.due("2: the index before a finish", text(x), "5=50");
        Checks.due("2: slot 7 has its own operation", x.finish(7), 5L);
        Checks.due("2: slot 0 has its own operation", x.finish(0), 50L);
        x.begin(0, LinkedIndex.PUT, LEAST, GREATEST);
        Checks.due("2: a slot is used again", x.finish(0), 0L);
        Checks.due("2: key and value are whole longs", text(x), LEAST + "=" + GREATEST + " 5=50");
    }

    private static void beginRefused() {
        LinkedIndex x = withKeys(5);
        x.begin(3, LinkedIndex.FIND, 5, 0);
        for (int slot : NO_SLOTS) {
            Checks.illegalArgument("2: begin in slot " + slot, () -> x.begin(slot, 0, 1, 1));
        }
        for (int kind : new int[] {Integer.MIN_VALUE, -1, 4, Integer.MAX_VALUE}) {
            Checks.illegalArgument("2: begin of kind " + kind, () -> x.begin(0, kind, 1, 1));
            Checks.illegalArgument("2: begin of kind " + kind + " in a slot in use", () -> x.begin(3, kind, 1, 1));
        }
        Checks.illegalState("2: begin in a slot in use", () -> x.begin(3, LinkedIndex.TAKE, 6, 1));
        Checks.due("2: kinds after what was refused", kinds(x), "-1 -1 -1 0 -1 -1 -1 -1");
        Checks.due("2: the operation that stood there", x.finish(3), 50L);
        x.begin(3, LinkedIndex.PUT, 6, 60);
        Checks.illegalState("2: begin in a slot in use by PUT", () -> x.begin(3, LinkedIndex.PUT, 7, 70));
        x.finish(3);
        Checks.due("2: key and value of the one that stood there", text(x), "5=50 6=60");
    }

    private static void step() {
        LinkedIndex x = withKeys(1, 2, 3);
        x.begin(0, LinkedIndex.FIND, 2, 0);
        x.begin(1, LinkedIndex.PUT, 4, 40);
        x.begin(2, LinkedIndex.TAKE, 1, 0);
        x.begin(3, LinkedIndex.NEXT, 3, 0);
        for (int slot = 0; slot < 4; slot++) {
            for (int n = 0; n <= 20; n++) {
                x.step(slot, n);
            }
        }
        Checks.due("3: steps finish nothing", kinds(x), "0 1 2 3 -1 -1 -1 -1");
        Checks.due("3: steps change nothing", text(x), "1=10 2=20 3=30");
        Checks.due("3: FIND after steps", x.finish(0), 20L);
        Checks.due("3: PUT after steps", x.finish(1), 0L);
        Checks.due("3: TAKE after steps", x.finish(2), 10L);
        Checks.due("3: NEXT after steps", x.finish(3), 3L);
        Checks.due("3: the index after all", text(x), "2=20 3=30 4=40");
    }

    private static void stepRefused() {
        LinkedIndex x = withKeys(5);
        x.begin(1, LinkedIndex.TAKE, 5, 0);
        for (int slot : NO_SLOTS) {
            Checks.illegalArgument("3: step in slot " + slot, () -> x.step(slot, 1));
        }
        for (int n : NO_STEPS) {
            Checks.illegalArgument("3: " + n + " steps", () -> x.step(1, n));
            Checks.illegalArgument("3: " + n + " steps in an empty slot", () -> x.step(0, n));
        }
        for (int n : new int[] {0, 1, 20}) {
            Checks.illegalState("3: " + n + " steps in an empty slot", () -> x.step(0, n));
        }
        Checks.due("3: kinds after what was refused", kinds(x), "-1 2 -1 -1 -1 -1 -1 -1");
        Checks.due("3: the operation goes on", x.finish(1), 50L);
        Checks.illegalState("3: step after finish", () -> x.step(1, 1));
    }

    private static void finishFind() {
        LinkedIndex x = withKeys(5, LEAST, GREATEST);
        for (long key : new long[] {5, LEAST, GREATEST}) {
            x.begin(2, LinkedIndex.FIND, key, 99);
            Checks.due("4: FIND " + key, x.finish(2), key * 10);
            Checks.due("4: kind after FIND", x.kind(2), -1);
        }
        for (long key : new long[] {4, 6, LEAST + 1, GREATEST - 1}) {
            x.begin(2, LinkedIndex.FIND, key, 99);
            Checks.noSuchElement("4: FIND " + key, () -> x.finish(2));
            Checks.due("4: kind after a FIND in vain", x.kind(2), -1);
        }
        Checks.due("4: FIND changes no key", x.size(), 3);
        Checks.due("4: FIND changes no value", x.value(1), 50L);
    }

    private static void finishPut() {
        LinkedIndex x = new LinkedIndex();
        Checks.due("4: PUT of a new key", put(x, 5, 50), 0L);
        Checks.due("4: PUT of a key that is there", put(x, 5, 51), 1L);
        Checks.due("4: kind after PUT", x.kind(0), -1);
        Checks.due("4: PUT gives the value", text(x), "5=51");
        put(x, 7, 70);
        put(x, 3, 30);
        put(x, 6, 60);
        Checks.due("4: PUT before, behind and between", text(x), "3=30 5=51 6=60 7=70");
    }

    private static void finishPutIntoFull() {
        LinkedIndex x = full();
        Checks.due("4: there is room for 100", x.size(), 100);
        for (long key : new long[] {LEAST, 1, 199, GREATEST}) {
            x.begin(1, LinkedIndex.PUT, key, 77);
            Checks.illegalState("4: PUT of the 101st key " + key, () -> x.finish(1));
            Checks.due("4: the refused PUT stands", x.kind(1), 1);
            Checks.due("4: it changed nothing", x.count(LEAST, GREATEST), 100);
            x.drop(1);
        }
        Checks.due("4: PUT of a key that is there among 100", put(x, 198, 5), 1L);
        Checks.due("4: its value", x.value(99), 5L);
        x.begin(1, LinkedIndex.PUT, 1, 77);
        Checks.illegalState("4: PUT of the 101st key", () -> x.finish(1));
        take(x, 0);
        Checks.due("4: the refused PUT when there is room", x.finish(1), 0L);
        Checks.due("4: its key", x.key(0), 1L);
        Checks.due("4: its value", x.value(0), 77L);
        Checks.due("4: 100 again", x.size(), 100);
    }

    private static void finishTake() {
        LinkedIndex x = withKeys(1, 2, 3, 4);
        Checks.due("4: TAKE between", take(x, 2), 20L);
        Checks.due("4: the rest", text(x), "1=10 3=30 4=40");
        Checks.due("4: TAKE of the last", take(x, 4), 40L);
        Checks.due("4: TAKE of the first", take(x, 1), 10L);
        Checks.due("4: the rest", text(x), "3=30");
        x.begin(6, LinkedIndex.TAKE, 2, 0);
        Checks.noSuchElement("4: TAKE of a key that is gone", () -> x.finish(6));
        Checks.due("4: kind after a TAKE in vain", x.kind(6), -1);
        Checks.due("4: TAKE of the only one", take(x, 3), 30L);
        Checks.due("4: nothing is left", x.size(), 0);
        Checks.due("4: PUT again", put(x, 3, 31), 0L);
        Checks.due("4: what was put again", text(x), "3=31");
        LinkedIndex y = full();
        Checks.due("4: TAKE of the first of 100", take(y, 0), 0L);
        Checks.due("4: TAKE of the last of 100", take(y, 198), 27L);
        Checks.due("4: 98 are left", y.size(), 98);
        Checks.due("4: the last now", y.key(97), 196L);
    }

    private static void finishNext() {
        LinkedIndex x = withKeys(10, 20, 30);
        Checks.due("4: NEXT 10", next(x, 10), 10L);
        Checks.due("4: NEXT 11", next(x, 11), 20L);
        Checks.due("4: NEXT 30", next(x, 30), 30L);
        Checks.due("4: NEXT of the least", next(x, LEAST), 10L);
        Checks.due("4: kind after NEXT", x.kind(0), -1);
        for (long key : new long[] {31, GREATEST}) {
            x.begin(5, LinkedIndex.NEXT, key, 0);
            Checks.noSuchElement("4: NEXT " + key, () -> x.finish(5));
            Checks.due("4: kind after a NEXT in vain", x.kind(5), -1);
        }
        put(x, GREATEST, 1);
        put(x, LEAST, 2);
        Checks.due("4: NEXT of the greatest, there", next(x, GREATEST), GREATEST);
        Checks.due("4: NEXT of the least, there", next(x, LEAST), LEAST);
        Checks.due("4: NEXT above the least", next(x, LEAST + 1), 10L);
        Checks.due("4: NEXT changes nothing", x.size(), 5);
        LinkedIndex y = new LinkedIndex();
        y.begin(0, LinkedIndex.NEXT, LEAST, 0);
        Checks.noSuchElement("4: NEXT in an empty index", () -> y.finish(0));
    }

    private static void finishRefused() {
        LinkedIndex x = withKeys(5);
        for (int slot : NO_SLOTS) {
            Checks.illegalArgument("4: finish of slot " + slot, () -> x.finish(slot));
        }
        for (int slot = 0; slot < 8; slot++) {
            int empty = slot;
            Checks.illegalState("4: finish of empty slot " + slot, () -> x.finish(empty));
        }
        x.begin(0, LinkedIndex.FIND, 6, 0);
        Checks.noSuchElement("4: FIND in vain", () -> x.finish(0));
        Checks.illegalState("4: finish once more", () -> x.finish(0));
        Checks.due("4: the index after what was refused", text(x), "5=50");
    }

    private static void finishSeesWhatFinishedBefore() {
        LinkedIndex x = withKeys(5);
        x.begin(1, LinkedIndex.FIND, 5, 0);
        x.begin(2, LinkedIndex.PUT, 5, 51);
        x.begin(3, LinkedIndex.TAKE, 5, 0);
        x.begin(4, LinkedIndex.PUT, 5, 52);
        x.begin(5, LinkedIndex.NEXT, 1, 0);
        x.begin(6, LinkedIndex.FIND, 5, 0);
        for (int slot = 1; slot < 7; slot++) {
            x.step(slot, 20);
        }
        Checks.due("4: PUT that began later", x.finish(2), 1L);
        Checks.due("4: FIND sees it", x.finish(1), 51L);
        Checks.due("4: TAKE sees it", x.finish(3), 51L);
        Checks.noSuchElement("4: NEXT sees that it is gone", () -> x.finish(5));
        Checks.due("4: PUT sees that it is gone", x.finish(4), 0L);
        Checks.due("4: FIND sees what was put again", x.finish(6), 52L);
    }

    private static void drop() {
        LinkedIndex x = withKeys(5);
        x.begin(0, LinkedIndex.FIND, 5, 0);
        x.begin(1, LinkedIndex.PUT, 5, 51);
        x.begin(2, LinkedIndex.TAKE, 5, 0);
        x.begin(7, LinkedIndex.NEXT, 5, 0);
        x.step(1, 20);
        x.step(2, 20);
        for (int slot : NO_SLOTS) {
            Checks.illegalArgument("5: drop of slot " + slot, () -> x.drop(slot));
        }
        Checks.due("5: drop of an empty slot", x.drop(3), false);
        Checks.due("5: drop of FIND", x.drop(0), true);
        Checks.due("5: drop of PUT", x.drop(1), true);
        Checks.due("5: drop of TAKE", x.drop(2), true);
        Checks.due("5: drop once more", x.drop(2), false);
        Checks.due("5: the other slots", kinds(x), "-1 -1 -1 -1 -1 -1 -1 3");
        Checks.due("5: drop of NEXT", x.drop(7), true);
        Checks.due("5: the index after it", text(x), "5=50");
        Checks.illegalState("5: finish after drop", () -> x.finish(1));
        x.begin(1, LinkedIndex.FIND, 5, 0);
        Checks.due("5: the slot is used again", x.finish(1), 50L);
    }

    private static void tidy() {
        LinkedIndex x = withKeys(1, 2, 3);
        take(x, 2);
        x.begin(1, LinkedIndex.PUT, 4, 40);
        x.step(1, 3);
        x.drop(1);
        x.begin(2, LinkedIndex.TAKE, 3, 0);
        for (int n = 0; n <= 20; n++) {
            x.tidy(n);
        }
        for (int n : NO_STEPS) {
            Checks.illegalArgument("6: tidy(" + n + ")", () -> x.tidy(n));
        }
        Checks.due("6: tidy changes no key", text(x), "1=10 3=30");
        Checks.due("6: tidy changes no slot", kinds(x), "-1 -1 2 -1 -1 -1 -1 -1");
        Checks.due("6: TAKE after tidy", x.finish(2), 30L);
    }

    private static void crash() {
        LinkedIndex x = withKeys(5, 6);
        for (int slot = 0; slot < 8; slot++) {
            x.begin(slot, 1 + slot % 2, 5 + slot % 3, 99);
            x.step(slot, 20);
        }
        Checks.due("7: crash of eight", x.crash(), 8);
        Checks.due("7: all are given up", kinds(x), "-1 -1 -1 -1 -1 -1 -1 -1");
        Checks.due("7: what was finished is there", text(x), "5=50 6=60");
        Checks.due("7: crash once more", x.crash(), 0);
        Checks.illegalState("7: finish after crash", () -> x.finish(0));
        x.begin(0, LinkedIndex.FIND, 5, 0);
        x.begin(7, LinkedIndex.FIND, 5, 0);
        x.begin(4, LinkedIndex.FIND, 5, 0);
        x.drop(4);
        Checks.due("7: crash of two", x.crash(), 2);
        Checks.due("7: PUT after crash", put(x, 5, 51), 1L);
    }

    private static void kind() {
        LinkedIndex x = new LinkedIndex();
        for (int slot : NO_SLOTS) {
            Checks.illegalArgument("8: kind of slot " + slot, () -> x.kind(slot));
        }
        for (int slot = 0; slot < 8; slot++) {
            Checks.due("8: kind of empty slot " + slot, x.kind(slot), -1);
            for (int kind = 0; kind < 4; kind++) {
                x.begin(slot, kind, 1, 1);
                Checks.due("8: kind in slot " + slot, x.kind(slot), kind);
                x.drop(slot);
            }
        }
    }

    private static void size() {
        LinkedIndex x = new LinkedIndex();
        for (int i = 1; i <= 100; i++) {
            put(x, -i, i);
            Checks.due("9: size", x.size(), i);
        }
        put(x, -100, 7);
        Checks.due("9: size after PUT of a key that is there", x.size(), 100);
        take(x, -50);
        Checks.due("9: size after TAKE", x.size(), 99);
    }

    private static void keyAndValue() {
        LinkedIndex x = withKeys(3, -1, GREATEST, 0, LEAST, 2);
        long[] due = {LEAST, -1, 0, 2, 3, GREATEST};
        for (int k = 0; k < due.length; k++) {
            Checks.due("10: key(" + k + ")", x.key(k), due[k]);
            Checks.due("11: value(" + k + ")", x.value(k), due[k] * 10);
        }
        LinkedIndex y = full();
        for (int k = 0; k < 100; k++) {
            Checks.due("10: key(" + k + ") of 100", y.key(k), 2L * k);
            Checks.due("11: value(" + k + ") of 100", y.value(k) * 37 % 100, (long) k);
        }
    }

    private static void keyAndValueOutOfBounds() {
        LinkedIndex x = withKeys(1, 2, 3);
        take(x, 3);
        for (int k : new int[] {Integer.MIN_VALUE, -1, 2, 3, 100, Integer.MAX_VALUE}) {
            Checks.outOfBounds("10: key(" + k + ")", () -> x.key(k));
            Checks.outOfBounds("11: value(" + k + ")", () -> x.value(k));
        }
        LinkedIndex y = full();
        Checks.outOfBounds("10: key(100) of 100", () -> y.key(100));
        Checks.outOfBounds("11: value(100) of 100", () -> y.value(100));
    }

    private static void count() {
        LinkedIndex x = withKeys(LEAST, 10, 20, 30, GREATEST);
        Checks.due("12: all", x.count(LEAST, GREATEST), 5);
        Checks.due("12: both among them", x.count(10, 30), 3);
        Checks.due("12: one", x.count(20, 20), 1);
        Checks.due("12: between keys", x.count(11, 29), 1);
        Checks.due("12: none", x.count(11, 19), 0);
        Checks.due("12: the first one is greater", x.count(30, 10), 0);
        Checks.due("12: the first one is the greatest", x.count(GREATEST, LEAST), 0);
        Checks.due("12: only the greatest", x.count(GREATEST, GREATEST), 1);
        Checks.due("12: only the least", x.count(LEAST, LEAST), 1);
        Checks.due("12: all of 100", full().count(LEAST, GREATEST), 100);
    }

    private static void sum() {
        LinkedIndex x = new LinkedIndex();
        put(x, LEAST, 1);
        put(x, 10, GREATEST);
        put(x, 20, 5);
        put(x, 30, -7);
        put(x, GREATEST, 100);
        Checks.due("13: both among them", x.sum(20, 30), -2L);
        Checks.due("13: one", x.sum(20, 20), 5L);
        Checks.due("13: none", x.sum(11, 19), 0L);
        Checks.due("13: the first one is greater", x.sum(30, 10), 0L);
        Checks.due("13: the first one is the greatest", x.sum(GREATEST, LEAST), 0L);
        Checks.due("13: it wraps", x.sum(LEAST, 10), LEAST);
        Checks.due("13: it wraps by more", x.sum(10, 20), LEAST + 4);
        Checks.due("13: all", x.sum(LEAST, GREATEST), LEAST + 98);
        Checks.due("13: only the greatest", x.sum(GREATEST, GREATEST), 100L);
        Checks.due("13: only the least", x.sum(LEAST, LEAST), 1L);
        Checks.due("13: all of 100", full().sum(LEAST, GREATEST), 4950L);
    }

    private static void objectsApart() {
        LinkedIndex x = withKeys(1);
        LinkedIndex y = withKeys(2);
        x.begin(0, LinkedIndex.FIND, 1, 0);
        Checks.due("1: another object's slot", y.kind(0), -1);
        Checks.due("1: another object's keys", text(y), "2=20");
    }
}
