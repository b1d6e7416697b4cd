/** Each sentence of the promises that names a boundary case, with a test of its own. */
public final class BoundariesTest {
    private static final long LEAST = Indexes.LEAST;
    private static final long GREATEST = Indexes.GREATEST;
    private static final int[] NOT_PUT = {LinkedIndex.FIND, LinkedIndex.TAKE, LinkedIndex.NEXT};

    public static void main(String[] args) {
        Checks.test("1: an empty index", BoundariesTest::newIsEmpty);
        Checks.test("2: kind is not 0 .. 3", BoundariesTest::beginOfNoKind);
        Checks.test("2: the slot is not empty", BoundariesTest::beginInSlotInUse);
        Checks.test("3: not the last one", BoundariesTest::stepsNeverFinish);
        Checks.test("3: n is not 0 .. 20", BoundariesTest::stepsNotInRange);
        Checks.test("3: the slot is empty", BoundariesTest::stepOfEmptySlot);
        Checks.test("4: the slot is empty then", BoundariesTest::finishEmptiesSlot);
        Checks.test("4: PUT: 1 if the key was there, else 0", BoundariesTest::putWasThere);
        Checks.test("4: TAKE: the value that the key had", BoundariesTest::takeValueItHad);
        Checks.test("4: illegal state: the slot is empty", BoundariesTest::finishOfEmptySlot);
        Checks.test("4: a PUT would put a key in and there are 100", BoundariesTest::putIntoFull);
        Checks.test("4: a PUT that puts no key in and there are 100", BoundariesTest::putInFull);
        Checks.test("4: a PUT that was refused, when there is room", BoundariesTest::putRefusedThenRoom);
        Checks.test("4: FIND when the key is not in the index", BoundariesTest::findInVain);
        Checks.test("4: TAKE when the key is not in the index", BoundariesTest::takeInVain);
        Checks.test("4: NEXT when there is none", BoundariesTest::nextInVain);
        Checks.test("4: but the slot is empty then, too", BoundariesTest::inVainEmptiesSlot);
        Checks.test("5: given up; the slot is empty then", BoundariesTest::dropGivesUp);
        Checks.test("5: whether there was one", BoundariesTest::dropWhetherThereWasOne);
        Checks.test("6: n is not 0 .. 20", BoundariesTest::tidyNotInRange);
        Checks.test("6: work that was left undone", BoundariesTest::tidyAtAnyTime);
        Checks.test("7: all operations are given up", BoundariesTest::crashGivesAllUp);
        Checks.test("7: how many they were", BoundariesTest::crashHowMany);
        Checks.test("8: -1 when it is empty", BoundariesTest::kindWhenEmpty);
        Checks.test("9: how many keys there are", BoundariesTest::sizeFromNoneTo100);
        Checks.test("10: from 0 in rising order", BoundariesTest::keysFrom0);
        Checks.test("10: there is none", BoundariesTest::noSuchKey);
        Checks.test("11: from 0 in rising order", BoundariesTest::valuesFrom0);
        Checks.test("11: there is none", BoundariesTest::noSuchValue);
        Checks.test("12: both among them", BoundariesTest::countBothAmongThem);
        Checks.test("12: 0 when the first one is greater", BoundariesTest::countFirstGreater);
        Checks.test("13: these keys, both among them", BoundariesTest::sumBothAmongThem);
        Checks.test("13: these keys, none when the first one is greater", BoundariesTest::sumFirstGreater);
        Checks.test("13: longs that wrap", BoundariesTest::sumWraps);
        Checks.end();
    }

    private static void newIsEmpty() {
        LinkedIndex x = new LinkedIndex();
        Checks.due("size()", x.size(), 0);
        Checks.outOfBounds("key(0)", () -> x.key(0));
        Checks.outOfBounds("value(0)", () -> x.value(0));
        Checks.due("count of all", x.count(LEAST, GREATEST), 0);
        Checks.due("sum of all", x.sum(LEAST, GREATEST), 0L);
        for (long key : new long[] {LEAST, 0, GREATEST}) {
            Checks.noSuchElement("FIND " + key, () -> Indexes.find(x, key));
            Checks.noSuchElement("TAKE " + key, () -> Indexes.take(x, key));
            Checks.noSuchElement("NEXT " + key, () -> Indexes.next(x, key));
        }
        Checks.due("crash()", x.crash(), 0);
        // Nothing is shared: what one object holds, another new one does not.
        LinkedIndex y = Indexes.allUnderWay();
        Checks.due("size() beside another", new LinkedIndex().size(), 0);
        Checks.due("kinds beside another", Indexes.kinds(new LinkedIndex()), Indexes.ALL_EMPTY);
        Checks.due("size() of the other", y.size(), 3);
    }

    private static void beginOfNoKind() {
        for (int kind : Indexes.NOT_KINDS) {
            Checks.refused("kind " + kind, Checks.ARGUMENT, Indexes::underWay, x -> x.begin(4, kind, 77, 7));
        }
        for (int kind = 0; kind <= 3; kind++) {
            LinkedIndex x = new LinkedIndex();
            x.begin(4, kind, 77, 7);
            Checks.due("kind(4)", x.kind(4), kind);
        }
    }

    private static void beginInSlotInUse() {
        for (int slot = 0; slot < 8; slot++) {
            int used = slot;
            for (int kind = 0; kind <= 3; kind++) {
                int other = kind;
                Checks.refused("kind " + kind + " in slot " + slot, Checks.STATE, Indexes::allUnderWay,
                    x -> x.begin(used, other, 77, 7));
            }
        }
        LinkedIndex x = Indexes.withKeys(10);
        x.begin(4, LinkedIndex.FIND, 10, 0);
        x.finish(4);
        Checks.due("begin after finish throws", begun(x), Checks.NOTHING);
        x.drop(4);
        Checks.due("begin after drop throws", begun(x), Checks.NOTHING);
        x.crash();
        Checks.due("begin after crash throws", begun(x), Checks.NOTHING);
        Checks.noSuchElement("FIND in vain", () -> x.finish(4));
        Checks.due("begin after FIND in vain throws", begun(x), Checks.NOTHING);
        Checks.illegalState("begin after begin", () -> x.begin(4, LinkedIndex.FIND, 11, 0));
    }

    private static String begun(LinkedIndex x) {
        return Checks.thrown(() -> x.begin(4, LinkedIndex.FIND, 11, 0));
    }

    private static void stepsNeverFinish() {
        LinkedIndex x = Indexes.underWay();
        for (int i = 0; i < 100; i++) {
            for (int slot = 0; slot < 4; slot++) {
                x.step(slot, 20);
            }
        }
        Checks.due("kinds after 2000 steps each", Indexes.kinds(x), "0 1 2 3 -1 -1 -1 -1");
        Checks.due("keys after 2000 steps each", Indexes.text(x), "10=100 20=200 30=300");
        Checks.due("PUT after 2000 steps", x.finish(1), 0L);
        Checks.due("TAKE after 2000 steps", x.finish(2), 300L);
        Checks.due("NEXT after 2000 steps", x.finish(3), 15L);
        Checks.due("FIND after 2000 steps", x.finish(0), 200L);
    }

    private static void stepsNotInRange() {
        for (int n : Indexes.NOT_STEPS) {
            for (int slot = 0; slot < 4; slot++) {
                int used = slot;
                Checks.refused(n + " steps in slot " + slot, Checks.ARGUMENT, Indexes::underWay, x -> x.step(used, n));
            }
        }
        for (int n = 0; n <= 20; n++) {
            LinkedIndex x = Indexes.underWay();
            int steps = n;
            Checks.due(n + " steps throw", Checks.thrown(() -> x.step(1, steps)), Checks.NOTHING);
        }
    }

    private static void stepOfEmptySlot() {
        for (int n = 0; n <= 20; n++) {
            int steps = n;
            Checks.refused(n + " steps", Checks.STATE, Indexes::underWay, x -> x.step(4, steps));
        }
        LinkedIndex x = Indexes.underWay();
        x.finish(0);
        Checks.illegalState("step after finish", () -> x.step(0, 0));
        x.drop(1);
        Checks.illegalState("step after drop", () -> x.step(1, 0));
        x.crash();
        Checks.illegalState("step after crash", () -> x.step(2, 0));
        x.begin(3, LinkedIndex.NEXT, 31, 0);
        Checks.noSuchElement("NEXT in vain", () -> x.finish(3));
        Checks.illegalState("step after NEXT in vain", () -> x.step(3, 0));
    }

    private static void finishEmptiesSlot() {
        for (int slot = 0; slot < 4; slot++) {
            LinkedIndex x = Indexes.underWay();
            int used = slot;
            x.finish(slot);
            Checks.due("kind(" + slot + ")", x.kind(slot), -1);
            Checks.illegalState("finish(" + slot + ") once more", () -> x.finish(used));
            Checks.due("drop(" + slot + ")", x.drop(slot), false);
            Checks.due("crash()", x.crash(), 3);
        }
    }

    private static void putWasThere() {
        LinkedIndex x = new LinkedIndex();
        for (long key : new long[] {0, LEAST, GREATEST}) {
            Checks.due("first PUT of " + key, Indexes.put(x, key, 0), 0L);
            Checks.due("second PUT of " + key, Indexes.put(x, key, 0), 1L);
            Indexes.take(x, key);
            Checks.due("PUT of " + key + " after TAKE", Indexes.put(x, key, 5), 0L);
            Checks.due("FIND of " + key + " after it", Indexes.find(x, key), 5L);
        }
    }

    private static void takeValueItHad() {
        LinkedIndex x = Indexes.withKeys(10, 20, 30);
        x.begin(1, LinkedIndex.TAKE, 20, 7);
        Indexes.put(x, 20, -1);
        Checks.due("TAKE after a new value", x.finish(1), -1L);
        Checks.due("TAKE of the least", Indexes.take(x, 10), 100L);
        Checks.due("TAKE of the greatest", Indexes.take(x, 30), 300L);
    }

    private static void finishOfEmptySlot() {
        for (int slot = 4; slot < 8; slot++) {
            int empty = slot;
            Checks.refused("finish(" + slot + ")", Checks.STATE, Indexes::underWay, x -> x.finish(empty));
        }
        LinkedIndex x = Indexes.underWay();
        x.drop(1);
        Checks.illegalState("finish after drop", () -> x.finish(1));
        x.crash();
        Checks.illegalState("finish after crash", () -> x.finish(2));
        Checks.due("keys after it all", Indexes.text(x), "10=100 20=200 30=300");
        Checks.refused("finish(1) among 100 keys", Checks.STATE, Indexes::full, y -> y.finish(1));
    }

    private static void putIntoFull() {
        for (long key : new long[] {LEAST, -1, 1, 99, 197, 199, GREATEST}) {
            Checks.refused("PUT of " + key, Checks.STATE, () -> fullAndPut(key), x -> x.finish(5));
            LinkedIndex x = fullAndPut(key);
            x.step(5, 20);
            Checks.illegalState("PUT of " + key, () -> x.finish(5));
            Checks.illegalState("PUT of " + key + " once more", () -> x.finish(5));
            Checks.due("its kind", x.kind(5), LinkedIndex.PUT);
            Checks.illegalState("begin in its slot", () -> x.begin(5, LinkedIndex.FIND, 0, 0));
            Checks.due("size", x.size(), 100);
            Checks.due("sum", x.sum(LEAST, GREATEST), 104950L);
            Checks.due("crash", x.crash(), 1);
        }
        LinkedIndex y = fullAndPut(1);
        Checks.illegalState("PUT before drop", () -> y.finish(5));
        Checks.due("drop", y.drop(5), true);
    }

    private static LinkedIndex fullAndPut(long key) {
        LinkedIndex x = Indexes.full();
        x.begin(5, LinkedIndex.PUT, key, 77);
        return x;
    }

    private static void putInFull() {
        LinkedIndex x = Indexes.full();
        for (long key : new long[] {0, 100, 198}) {
            Checks.due("PUT of " + key, Indexes.put(x, key, -key), 1L);
            Checks.due("FIND of " + key, Indexes.find(x, key), -key);
        }
        Checks.due("size", x.size(), 100);
        Checks.due("NEXT among 100", Indexes.next(x, 197), 198L);
        Checks.noSuchElement("FIND in vain among 100", () -> Indexes.find(x, 1));
        Checks.noSuchElement("TAKE in vain among 100", () -> Indexes.take(x, 1));
        Checks.noSuchElement("NEXT in vain among 100", () -> Indexes.next(x, 199));
    }

    private static void putRefusedThenRoom() {
        LinkedIndex x = fullAndPut(51);
        Checks.illegalState("PUT of the 101st key", () -> x.finish(5));
        Indexes.take(x, 0);
        Checks.due("PUT when there are 99", x.finish(5), 0L);
        Checks.due("its slot", x.kind(5), -1);
        Checks.due("size", x.size(), 100);
        Checks.due("its key", x.key(25), 51L);
        Checks.due("its value", x.value(25), 77L);
        x.begin(5, LinkedIndex.PUT, 53, 78);
        Checks.illegalState("PUT of the 101st key again", () -> x.finish(5));
    }

    private static void findInVain() {
        LinkedIndex x = Indexes.withKeys(10, 20);
        for (long key : new long[] {LEAST, 9, 11, 19, 21, GREATEST}) {
            Checks.noSuchElement("FIND " + key, () -> Indexes.find(x, key));
        }
        Indexes.take(x, 20);
        Checks.noSuchElement("FIND of what was taken", () -> Indexes.find(x, 20));
        Indexes.take(x, 10);
        // What an emptied index held before must not be found again, nor may the value 0 stand for none.
        Checks.noSuchElement("FIND in an emptied index", () -> Indexes.find(x, 10));
        Indexes.put(x, 0, 0);
        Checks.due("FIND of key 0 with value 0", Indexes.find(x, 0), 0L);
    }

    private static void takeInVain() {
        LinkedIndex x = Indexes.withKeys(10, 20);
        for (long key : new long[] {LEAST, 9, 11, 19, 21, GREATEST}) {
            Checks.noSuchElement("TAKE " + key, () -> Indexes.take(x, key));
        }
        Checks.due("keys", Indexes.text(x), "10=100 20=200");
        Indexes.take(x, 20);
        Checks.noSuchElement("TAKE of what was taken", () -> Indexes.take(x, 20));
        Indexes.take(x, 10);
        Checks.noSuchElement("TAKE in an emptied index", () -> Indexes.take(x, 10));
        Checks.due("size", x.size(), 0);
    }

    private static void nextInVain() {
        LinkedIndex x = Indexes.withKeys(10, 20);
        for (long key : new long[] {21, GREATEST}) {
            Checks.noSuchElement("NEXT " + key, () -> Indexes.next(x, key));
        }
        Indexes.take(x, 20);
        Checks.noSuchElement("NEXT above what is left", () -> Indexes.next(x, 11));
        Indexes.take(x, 10);
        Checks.noSuchElement("NEXT in an emptied index", () -> Indexes.next(x, LEAST));
    }

    private static void inVainEmptiesSlot() {
        for (int kind : NOT_PUT) {
            LinkedIndex x = Indexes.underWay();
            x.begin(7, kind, 31, 7);
            x.step(7, 20);
            Checks.noSuchElement("finish of kind " + kind, () -> x.finish(7));
            Checks.due("kind(7) after kind " + kind, x.kind(7), -1);
            Checks.illegalState("finish once more of kind " + kind, () -> x.finish(7));
            Checks.illegalState("step after kind " + kind, () -> x.step(7, 1));
            Checks.due("drop after kind " + kind, x.drop(7), false);
            x.begin(7, LinkedIndex.FIND, 10, 0);
            Checks.due("the next one after kind " + kind, x.finish(7), 100L);
            Checks.due("crash after kind " + kind, x.crash(), 4);
        }
    }

    private static void dropGivesUp() {
        for (int slot = 0; slot < 8; slot++) {
            LinkedIndex x = Indexes.allUnderWay();
            int dropped = slot;
            x.step(slot, 20);
            x.drop(slot);
            Checks.due("kind(" + slot + ")", x.kind(slot), -1);
            Checks.illegalState("finish(" + slot + ")", () -> x.finish(dropped));
            Checks.due("keys", Indexes.text(x), "10=100 20=200 30=300");
            Checks.due("the others", x.crash(), 7);
        }
    }

    private static void dropWhetherThereWasOne() {
        for (int slot = 0; slot < 8; slot++) {
            LinkedIndex x = Indexes.allUnderWay();
            Checks.due("drop(" + slot + ")", x.drop(slot), true);
            Checks.due("drop(" + slot + ") once more", x.drop(slot), false);
            Checks.due("drop(" + slot + ") of a new object", new LinkedIndex().drop(slot), false);
        }
        LinkedIndex x = Indexes.underWay();
        x.finish(0);
        Checks.due("drop after finish", x.drop(0), false);
        x.crash();
        Checks.due("drop after crash", x.drop(1), false);
    }

    private static void tidyNotInRange() {
        for (int n : Indexes.NOT_STEPS) {
            Checks.refused("tidy(" + n + ")", Checks.ARGUMENT, Indexes::underWay, x -> x.tidy(n));
            Checks.refused("tidy(" + n + ") of a new object", Checks.ARGUMENT, LinkedIndex::new, x -> x.tidy(n));
        }
        for (int n = 0; n <= 20; n++) {
            int pieces = n;
            LinkedIndex x = Indexes.underWay();
            Checks.due("tidy(" + n + ") throws", Checks.thrown(() -> x.tidy(pieces)), Checks.NOTHING);
        }
    }

    /** With nothing undone, after a TAKE, after operations that were given up, and among 100 keys. */
    private static void tidyAtAnyTime() {
        LinkedIndex x = new LinkedIndex();
        x.tidy(20);
        Checks.due("a new object", Indexes.everything(x), Indexes.everything(new LinkedIndex()));
        LinkedIndex y = Indexes.allUnderWay();
        y.finish(2);
        y.tidy(20);
        Checks.due("keys after TAKE", Indexes.text(y), "10=100 20=200");
        Checks.due("kinds after TAKE", Indexes.kinds(y), "0 1 -1 3 0 1 2 3");
        y.step(1, 20);
        y.crash();
        y.tidy(20);
        Checks.due("keys after crash", Indexes.text(y), "10=100 20=200");
        LinkedIndex z = fullAndPut(51);
        Checks.illegalState("PUT of the 101st key", () -> z.finish(5));
        z.tidy(20);
        Checks.due("the refused PUT", z.kind(5), LinkedIndex.PUT);
        Checks.due("size among 100", z.size(), 100);
    }

    private static void crashGivesAllUp() {
        LinkedIndex x = Indexes.allUnderWay();
        for (int slot = 0; slot < 8; slot++) {
            x.step(slot, 20);
        }
        x.crash();
        Checks.due("kinds", Indexes.kinds(x), Indexes.ALL_EMPTY);
        Checks.due("keys", Indexes.text(x), "10=100 20=200 30=300");
        for (int slot = 0; slot < 8; slot++) {
            int empty = slot;
            Checks.illegalState("finish(" + slot + ")", () -> x.finish(empty));
        }
        Checks.due("what was finished is there", Indexes.find(x, 20), 200L);
        LinkedIndex y = Indexes.full();
        y.crash();
        Checks.due("100 keys after crash", Indexes.text(y), Indexes.text(Indexes.full()));
    }

    private static void crashHowMany() {
        Checks.due("none", new LinkedIndex().crash(), 0);
        for (int slot = 0; slot < 8; slot++) {
            LinkedIndex x = new LinkedIndex();
            x.begin(slot, slot % 4, 1, 1);
            Checks.due("one, in slot " + slot, x.crash(), 1);
            Checks.due("once more", x.crash(), 0);
        }
        LinkedIndex x = Indexes.allUnderWay();
        x.finish(0);
        x.drop(5);
        Checks.noSuchElement("NEXT in vain", () -> x.finish(7));
        Checks.due("not what was finished or dropped", x.crash(), 5);
        Checks.due("all eight", Indexes.allUnderWay().crash(), 8);
    }

    private static void kindWhenEmpty() {
        LinkedIndex x = Indexes.underWay();
        Checks.due("before", Indexes.kinds(x), "0 1 2 3 -1 -1 -1 -1");
        x.finish(0);
        Checks.due("after finish", Indexes.kinds(x), "-1 1 2 3 -1 -1 -1 -1");
        x.drop(1);
        Checks.due("after drop", Indexes.kinds(x), "-1 -1 2 3 -1 -1 -1 -1");
        x.crash();
        Checks.due("after crash", Indexes.kinds(x), Indexes.ALL_EMPTY);
        x.begin(0, LinkedIndex.FIND, 0, 0);
        // FIND's number is 0, which must not be taken for an empty slot.
        Checks.due("FIND under way", x.kind(0), 0);
        Checks.noSuchElement("FIND in vain", () -> x.finish(0));
        Checks.due("after FIND in vain", x.kind(0), -1);
    }

    private static void sizeFromNoneTo100() {
        LinkedIndex x = new LinkedIndex();
        Checks.due("none", x.size(), 0);
        for (int i = 1; i <= 100; i++) {
            Indexes.put(x, -i, i);
            Checks.due("after " + i, x.size(), i);
        }
        Indexes.put(x, -100, 7);
        Checks.due("after PUT of a key that is there", x.size(), 100);
        x.begin(0, LinkedIndex.PUT, 1, 1);
        Checks.illegalState("PUT of the 101st key", () -> x.finish(0));
        Checks.due("after a PUT refused", x.size(), 100);
        x.begin(1, LinkedIndex.TAKE, -50, 0);
        Checks.due("before TAKE is finished", x.size(), 100);
        x.finish(1);
        Checks.due("after TAKE", x.size(), 99);
        LinkedIndex y = Indexes.withKeys(1);
        Indexes.take(y, 1);
        Checks.due("after TAKE of the last one", y.size(), 0);
    }

    private static void keysFrom0() {
        LinkedIndex x = Indexes.withKeys(3, -1, GREATEST, 0, LEAST, 2);
        long[] rising = {LEAST, -1, 0, 2, 3, GREATEST};
        for (int k = 0; k < rising.length; k++) {
            Checks.due("key(" + k + ")", x.key(k), rising[k]);
        }
        LinkedIndex y = Indexes.full();
        for (int k = 0; k < 100; k++) {
            Checks.due("key(" + k + ") of 100", y.key(k), 2L * k);
        }
    }

    private static void noSuchKey() {
        for (int k : new int[] {Integer.MIN_VALUE, -1, 3, 4, 99, 100, Integer.MAX_VALUE}) {
            Checks.refused("key(" + k + ") of 3", Checks.BOUNDS, Indexes::underWay, x -> x.key(k));
            Checks.refused("key(" + k + ") of none", Checks.BOUNDS, LinkedIndex::new, x -> x.key(k));
        }
        for (int k : new int[] {Integer.MIN_VALUE, -1, 100, 101, Integer.MAX_VALUE}) {
            Checks.refused("key(" + k + ") of 100", Checks.BOUNDS, Indexes::full, x -> x.key(k));
        }
        LinkedIndex x = Indexes.withKeys(10, 20);
        Indexes.take(x, 10);
        Checks.outOfBounds("key(1) after TAKE", () -> x.key(1));
        Indexes.take(x, 20);
        Checks.outOfBounds("key(0) after TAKE of all", () -> x.key(0));
    }

    private static void valuesFrom0() {
        LinkedIndex x = new LinkedIndex();
        Indexes.put(x, 3, 1);
        Indexes.put(x, LEAST, 9);
        Indexes.put(x, GREATEST, -9);
        Indexes.put(x, -1, 4);
        long[] byKey = {9, 4, 1, -9};
        for (int k = 0; k < byKey.length; k++) {
            Checks.due("value(" + k + ")", x.value(k), byKey[k]);
        }
        LinkedIndex y = Indexes.full();
        for (int k = 0; k < 100; k++) {
            Checks.due("value(" + k + ") of 100", y.value(k), 1000L + k);
        }
    }

    private static void noSuchValue() {
        for (int k : new int[] {Integer.MIN_VALUE, -1, 3, 4, 99, 100, Integer.MAX_VALUE}) {
            Checks.refused("value(" + k + ") of 3", Checks.BOUNDS, Indexes::underWay, x -> x.value(k));
            Checks.refused("value(" + k + ") of none", Checks.BOUNDS, LinkedIndex::new, x -> x.value(k));
        }
        for (int k : new int[] {Integer.MIN_VALUE, -1, 100, 101, Integer.MAX_VALUE}) {
            Checks.refused("value(" + k + ") of 100", Checks.BOUNDS, Indexes::full, x -> x.value(k));
        }
        LinkedIndex x = Indexes.withKeys(10, 20);
        Indexes.take(x, 10);
        Checks.outOfBounds("value(1) after TAKE", () -> x.value(1));
        Indexes.take(x, 20);
        Checks.outOfBounds("value(0) after TAKE of all", () -> x.value(0));
    }

    private static void countBothAmongThem() {
        LinkedIndex x = Indexes.withKeys(LEAST, 10, 20, 30, GREATEST);
        Checks.due("from a key to a key", x.count(10, 30), 3);
        Checks.due("just inside both", x.count(11, 29), 1);
        Checks.due("just outside both", x.count(9, 31), 3);
        Checks.due("a key alone", x.count(20, 20), 1);
        Checks.due("no key, alone", x.count(21, 21), 0);
        Checks.due("between two keys", x.count(11, 19), 0);
        Checks.due("all", x.count(LEAST, GREATEST), 5);
        Checks.due("all but the least", x.count(LEAST + 1, GREATEST), 4);
        Checks.due("all but the greatest", x.count(LEAST, GREATEST - 1), 4);
        Checks.due("the least alone", x.count(LEAST, LEAST), 1);
        Checks.due("the greatest alone", x.count(GREATEST, GREATEST), 1);
        LinkedIndex y = Indexes.full();
        Checks.due("all of 100", y.count(LEAST, GREATEST), 100);
        Checks.due("100 from key to key", y.count(0, 198), 100);
        Checks.due("98 of 100", y.count(1, 197), 98);
    }

    private static void countFirstGreater() {
        LinkedIndex x = Indexes.withKeys(LEAST, 10, 20, 30, GREATEST);
        Checks.due("by much", x.count(GREATEST, LEAST), 0);
        Checks.due("keys turned round", x.count(30, 10), 0);
        Checks.due("by one, from a key", x.count(20, 19), 0);
        Checks.due("by one, to a key", x.count(21, 20), 0);
        Checks.due("least of all", x.count(LEAST + 1, LEAST), 0);
        Checks.due("greatest of all", x.count(GREATEST, GREATEST - 1), 0);
        Checks.due("of 100", Indexes.full().count(198, 0), 0);
        Checks.due("of none", new LinkedIndex().count(1, 0), 0);
    }

    private static LinkedIndex withPowers() {
        LinkedIndex x = new LinkedIndex();
        Indexes.put(x, LEAST, 1);
        Indexes.put(x, 10, 2);
        Indexes.put(x, 20, 4);
        Indexes.put(x, 30, 8);
        Indexes.put(x, GREATEST, 16);
        return x;
    }

    private static void sumBothAmongThem() {
        LinkedIndex x = withPowers();
        Checks.due("from a key to a key", x.sum(10, 30), 14L);
        Checks.due("just inside both", x.sum(11, 29), 4L);
        Checks.due("just outside both", x.sum(9, 31), 14L);
        Checks.due("a key alone", x.sum(20, 20), 4L);
        Checks.due("no key, alone", x.sum(21, 21), 0L);
        Checks.due("between two keys", x.sum(11, 19), 0L);
        Checks.due("all", x.sum(LEAST, GREATEST), 31L);
        Checks.due("all but the least", x.sum(LEAST + 1, GREATEST), 30L);
        Checks.due("all but the greatest", x.sum(LEAST, GREATEST - 1), 15L);
        Checks.due("the least alone", x.sum(LEAST, LEAST), 1L);
        Checks.due("the greatest alone", x.sum(GREATEST, GREATEST), 16L);
        Checks.due("all of 100", Indexes.full().sum(0, 198), 104950L);
    }

    private static void sumFirstGreater() {
        LinkedIndex x = withPowers();
        Checks.due("by much", x.sum(GREATEST, LEAST), 0L);
        Checks.due("keys turned round", x.sum(30, 10), 0L);
        Checks.due("by one, from a key", x.sum(20, 19), 0L);
        Checks.due("by one, to a key", x.sum(21, 20), 0L);
        Checks.due("least of all", x.sum(LEAST + 1, LEAST), 0L);
        Checks.due("greatest of all", x.sum(GREATEST, GREATEST - 1), 0L);
        Checks.due("of 100", Indexes.full().sum(198, 0), 0L);
        Checks.due("of none", new LinkedIndex().sum(1, 0), 0L);
    }

    private static void sumWraps() {
        LinkedIndex x = new LinkedIndex();
        Indexes.put(x, 1, GREATEST);
        Indexes.put(x, 2, 1);
        Indexes.put(x, 3, LEAST);
        Indexes.put(x, 4, -1);
        Indexes.put(x, 5, LEAST);
        Checks.due("over the greatest", x.sum(1, 2), LEAST);
        Checks.due("and twice the least", x.sum(1, 3), 0L);
        Checks.due("under the least", x.sum(3, 4), GREATEST);
        Checks.due("and under it again", x.sum(3, 5), -1L);
        Checks.due("to and fro", x.sum(1, 5), GREATEST);
        LinkedIndex y = new LinkedIndex();
        for (int key = 0; key < 100; key++) {
            Indexes.put(y, key, GREATEST);
        }
        Checks.due("100 times the greatest", y.sum(0, 99), -100L);
        Checks.due("99 times the greatest", y.sum(1, 99), GREATEST - 98);
    }
}
