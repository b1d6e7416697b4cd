/** The sentences that hold for all promises ('What it is' and 'Terms'), each with a test of its own. */
public final class TermsTest {
    private static final long LEAST = Indexes.LEAST;
    private static final long GREATEST = Indexes.GREATEST;

    public static void main(String[] args) {
        Checks.test("at most 512 calls", TermsTest::all512Calls);
        Checks.test("keys are longs", TermsTest::keysAreLongs);
        Checks.test("values are longs", TermsTest::valuesAreLongs);
        Checks.test("at most 100 keys are in the index", TermsTest::atMost100Keys);
        Checks.test("each once", TermsTest::eachOnce);
        Checks.test("slots 0 .. 7", TermsTest::slots);
        Checks.test("all empty at first", TermsTest::allEmptyAtFirst);
        Checks.test("PUT: in the index or put into it", TermsTest::putInOrInto);
        Checks.test("TAKE: its key is taken out", TermsTest::takenOut);
        Checks.test("NEXT: the least key that is not below its key", TermsTest::leastNotBelow);
        Checks.test("all when it is finished", TermsTest::allWhenFinished);
        Checks.test("steps make no difference", TermsTest::stepsMakeNoDifference);
        Checks.test("tidying up makes no difference", TermsTest::tidyingMakesNoDifference);
        Checks.test("a call that throws changes nothing", TermsTest::throwingChangesNothing);
        Checks.test("but where that is said", TermsTest::butWhereThatIsSaid);
        Checks.test("the exception named first", TermsTest::namedFirst);
        Checks.test("also if there is no such slot", TermsTest::noSuchSlot);
        Checks.end();
    }

    /** 200 calls to fill, 200 to empty, 100 to put 50 keys in, and 12 more. */
    private static void all512Calls() {
        LinkedIndex x = Indexes.full();
        for (int i = 0; i < 100; i++) {
            Checks.due("TAKE " + 2 * i, Indexes.take(x, 2 * i), 1000L + i);
        }
        for (int i = 0; i < 50; i++) {
            Checks.due("PUT " + i, Indexes.put(x, i, -i), 0L);
        }
        for (int i = 0; i < 6; i++) {
            x.begin(i, LinkedIndex.NEXT, 49 + i % 2, 0);
        }
        Checks.due("call 507", x.finish(0), 49L);
        Checks.noSuchElement("call 508", () -> x.finish(1));
        Checks.due("call 509", x.crash(), 4);
        Checks.due("call 510", x.size(), 50);
        Checks.due("call 511", x.value(49), -49L);
        Checks.due("call 512", x.sum(LEAST, GREATEST), -1225L);
    }

    private static void keysAreLongs() {
        LinkedIndex x = Indexes.withKeys(GREATEST, 1L << 32, 0, LEAST, -1, -1L << 32);
        long[] rising = {LEAST, -1L << 32, -1, 0, 1L << 32, GREATEST};
        Checks.due("size", x.size(), rising.length);
        for (int k = 0; k < rising.length; k++) {
            Checks.due("key(" + k + ")", x.key(k), rising[k]);
            Checks.due("FIND " + rising[k], Indexes.find(x, rising[k]), rising[k] * 10);
            Checks.due("NEXT " + rising[k], Indexes.next(x, rising[k]), rising[k]);
        }
    }

    private static void valuesAreLongs() {
        LinkedIndex x = new LinkedIndex();
        long[] values = {LEAST, -1L << 32, -1, 0, 1L << 32, GREATEST};
        for (int k = 0; k < values.length; k++) {
            Indexes.put(x, k, values[k]);
            Checks.due("value " + values[k], x.value(k), values[k]);
            Checks.due("FIND of value " + values[k], Indexes.find(x, k), values[k]);
            Checks.due("sum of value " + values[k], x.sum(k, k), values[k]);
        }
        for (int k = 0; k < values.length; k++) {
            Checks.due("TAKE of value " + values[k], Indexes.take(x, k), values[k]);
        }
    }

    private static void atMost100Keys() {
        LinkedIndex x = Indexes.withManyKeys(99);
        Checks.due("PUT of the 100th key", Indexes.put(x, 198, 1099), 0L);
        x.begin(7, LinkedIndex.PUT, 200, 1100);
        Checks.illegalState("PUT of the 101st key", () -> x.finish(7));
        Checks.due("size", x.size(), 100);
        Checks.due("the 100 keys", Indexes.text(x), Indexes.text(Indexes.full()));
    }

    private static void eachOnce() {
        LinkedIndex x = Indexes.withKeys(5, 6, 5, 6, 5);
        Checks.due("keys", Indexes.text(x), "5=50 6=60");
        Checks.due("count", x.count(5, 5), 1);
        Checks.due("TAKE", Indexes.take(x, 5), 50L);
        Checks.due("keys after TAKE", Indexes.text(x), "6=60");
    }

    private static void slots() {
        LinkedIndex x = Indexes.allUnderWay();
        Checks.due("kinds of 0 .. 7", Indexes.kinds(x), "0 1 2 3 0 1 2 3");
        String[] due = {"200", "0", "300", "15", "150", "1", "200", "NoSuchElementException"};
        for (int slot = 0; slot < 8; slot++) {
            x.step(slot, 1);
            Checks.due("finish(" + slot + ")", Indexes.finished(x, slot), due[slot]);
        }
        Checks.due("keys", Indexes.text(x), "10=101 15=150");
    }

    private static void allEmptyAtFirst() {
        for (int slot = 0; slot < 8; slot++) {
            LinkedIndex x = new LinkedIndex();
            int empty = slot;
            Checks.due("kind(" + slot + ")", x.kind(slot), -1);
            Checks.due("drop(" + slot + ")", x.drop(slot), false);
            Checks.illegalState("step(" + slot + ", 0)", () -> x.step(empty, 0));
            Checks.illegalState("finish(" + slot + ")", () -> x.finish(empty));
            Checks.due("begin in " + slot + " throws", Checks.thrown(() -> x.begin(empty, 0, 0, 0)), Checks.NOTHING);
        }
    }

    private static void putInOrInto() {
        LinkedIndex x = Indexes.withKeys(10, 20);
        Indexes.put(x, 10, 7);
        Indexes.put(x, 20, 8);
        Checks.due("in the index", Indexes.text(x), "10=7 20=8");
        Indexes.put(x, 9, 1);
        Indexes.put(x, 21, 2);
        Indexes.put(x, 11, 3);
        Checks.due("put into it", Indexes.text(x), "9=1 10=7 11=3 20=8 21=2");
    }

    private static void takenOut() {
        LinkedIndex x = Indexes.withKeys(1, 2, 3, 4);
        Indexes.take(x, 1);
        Checks.due("the least", Indexes.text(x), "2=20 3=30 4=40");
        Indexes.take(x, 4);
        Checks.due("the greatest", Indexes.text(x), "2=20 3=30");
        Indexes.take(x, 2);
        Indexes.take(x, 3);
        Checks.due("the last one", Indexes.text(x), "");
        Indexes.put(x, 3, 31);
        Checks.due("put in again", Indexes.text(x), "3=31");
        LinkedIndex y = Indexes.full();
        Indexes.take(y, 0);
        Indexes.take(y, 198);
        Checks.due("size after two of 100", y.size(), 98);
        Checks.due("least after two of 100", y.key(0), 2L);
        Checks.due("greatest after two of 100", y.key(97), 196L);
    }

    private static void leastNotBelow() {
        LinkedIndex x = Indexes.withKeys(10, 20, 30);
        Checks.due("far below all", Indexes.next(x, LEAST), 10L);
        Checks.due("just below a key", Indexes.next(x, 19), 20L);
        Checks.due("a key itself", Indexes.next(x, 20), 20L);
        Checks.due("just above a key", Indexes.next(x, 21), 30L);
        Checks.due("the greatest key", Indexes.next(x, 30), 30L);
        LinkedIndex y = Indexes.withKeys(LEAST, GREATEST);
        Checks.due("the least long", Indexes.next(y, LEAST), LEAST);
        Checks.due("just above the least long", Indexes.next(y, LEAST + 1), GREATEST);
        Checks.due("the greatest long", Indexes.next(y, GREATEST), GREATEST);
    }

    private static void allWhenFinished() {
        LinkedIndex x = Indexes.allUnderWay();
        Checks.due("keys before", Indexes.text(x), "10=100 20=200 30=300");
        Checks.due("count before", x.count(10, 30), 3);
        Checks.due("sum before", x.sum(10, 30), 600L);
        Checks.due("PUT, begun before FIND of its key", x.finish(1), 0L);
        Checks.due("FIND of that key", x.finish(4), 150L);
        Checks.due("NEXT, begun before that key was there", x.finish(3), 15L);
        Checks.due("TAKE, begun after FIND of its key", x.finish(6), 200L);
        Checks.noSuchElement("FIND of a key that is gone since", () -> x.finish(0));
        Indexes.put(x, GREATEST, 1);
        Checks.due("NEXT of what came after it began", x.finish(7), GREATEST);
        Indexes.take(x, 30);
        Checks.noSuchElement("TAKE of a key that is gone since", () -> x.finish(2));
        Indexes.take(x, 10);
        Checks.due("PUT of a key that is gone since", x.finish(5), 0L);
    }

    private static void stepsMakeNoDifference() {
        for (int n = 0; n <= 20; n++) {
            LinkedIndex x = Indexes.allUnderWay();
            for (int slot = 7; slot >= 0; slot--) {
                x.step(slot, n);
                x.step(slot, 20 - n);
            }
            Checks.due("keys after " + n + " steps", Indexes.text(x), "10=100 20=200 30=300");
            Checks.due("all after " + n + " steps", Indexes.everything(x),
                Indexes.everything(Indexes.allUnderWay()));
        }
        LinkedIndex y = Indexes.allUnderWay();
        for (int slot = 0; slot < 8; slot++) {
            y.step(slot, 20);
        }
        Checks.due("crash after steps", y.crash(), 8);
        Checks.due("keys after steps and crash", Indexes.text(y), "10=100 20=200 30=300");
    }

    private static void tidyingMakesNoDifference() {
        for (int n = 0; n <= 20; n++) {
            LinkedIndex x = Indexes.allUnderWay();
            x.step(5, n);
            x.drop(5);
            x.finish(2);
            LinkedIndex y = Indexes.allUnderWay();
            y.drop(5);
            y.finish(2);
            x.tidy(n);
            x.tidy(20);
            Checks.due("keys after tidy(" + n + ")", Indexes.text(x), "10=100 20=200");
            Checks.due("all after tidy(" + n + ")", Indexes.everything(x), Indexes.everything(y));
        }
    }

    private static void throwingChangesNothing() {
        for (int slot = 0; slot < 8; slot++) {
            int used = slot;
            Checks.refused("begin in use, " + slot, Checks.STATE, Indexes::allUnderWay, x -> x.begin(used, 1, 77, 7));
            Checks.refused("begin of no kind in " + slot, Checks.ARGUMENT, LinkedIndex::new,
                x -> x.begin(used, 4, 77, 7));
            Checks.refused("step of an empty slot " + slot, Checks.STATE, LinkedIndex::new, x -> x.step(used, 1));
            Checks.refused("21 steps in " + slot, Checks.ARGUMENT, Indexes::allUnderWay, x -> x.step(used, 21));
            Checks.refused("finish of an empty slot " + slot, Checks.STATE, LinkedIndex::new, x -> x.finish(used));
        }
        Checks.refused("tidy(21)", Checks.ARGUMENT, Indexes::allUnderWay, x -> x.tidy(21));
        Checks.refused("key(3)", Checks.BOUNDS, Indexes::allUnderWay, x -> x.key(3));
        Checks.refused("value(3)", Checks.BOUNDS, Indexes::allUnderWay, x -> x.value(3));
        Checks.refused("PUT of the 101st key", Checks.STATE, TermsTest::fullAndPut, x -> x.finish(5));
        LinkedIndex y = fullAndPut();
        Checks.illegalState("PUT of the 101st key", () -> y.finish(5));
        Checks.due("keys after it", Indexes.text(y), Indexes.text(Indexes.full()));
        Checks.due("its kind after it", y.kind(5), LinkedIndex.PUT);
    }

    private static LinkedIndex fullAndPut() {
        LinkedIndex x = Indexes.full();
        x.begin(5, LinkedIndex.PUT, 51, 77);
        return x;
    }

    /** What is said is that the slot is empty; the other slots and the keys are as they were. */
    private static void butWhereThatIsSaid() {
        int[] kinds = {LinkedIndex.FIND, LinkedIndex.TAKE, LinkedIndex.NEXT};
        for (int kind : kinds) {
            LinkedIndex x = Indexes.underWay();
            x.begin(4, kind, 31, 7);
            Checks.noSuchElement("finish of kind " + kind, () -> x.finish(4));
            Checks.due("keys after kind " + kind, Indexes.text(x), "10=100 20=200 30=300");
            Checks.due("all after kind " + kind, Indexes.everything(x), Indexes.everything(Indexes.underWay()));
        }
    }

    private static void namedFirst() {
        LinkedIndex x = Indexes.withKeys(1);
        x.begin(3, LinkedIndex.PUT, 2, 20);
        for (int kind : Indexes.NOT_KINDS) {
            Checks.illegalArgument("begin of kind " + kind + " in a slot in use", () -> x.begin(3, kind, 1, 1));
            Checks.illegalArgument("begin of kind " + kind + " in no slot", () -> x.begin(8, kind, 1, 1));
        }
        for (int n : Indexes.NOT_STEPS) {
            Checks.illegalArgument(n + " steps in an empty slot", () -> x.step(4, n));
            Checks.illegalArgument(n + " steps in no slot", () -> x.step(8, n));
        }
        Checks.due("kinds", Indexes.kinds(x), "-1 -1 -1 1 -1 -1 -1 -1");
    }

    private static void noSuchSlot() {
        for (int slot : Indexes.NOT_SLOTS) {
            String in = " in slot " + slot;
            Checks.refused("begin" + in, Checks.ARGUMENT, Indexes::underWay, x -> x.begin(slot, 1, 77, 7));
            Checks.refused("begin, all in use," + in, Checks.ARGUMENT, Indexes::allUnderWay,
                x -> x.begin(slot, 1, 77, 7));
            Checks.refused("step" + in, Checks.ARGUMENT, Indexes::allUnderWay, x -> x.step(slot, 1));
            Checks.refused("step, all empty," + in, Checks.ARGUMENT, LinkedIndex::new, x -> x.step(slot, 1));
            Checks.refused("finish" + in, Checks.ARGUMENT, Indexes::allUnderWay, x -> x.finish(slot));
            Checks.refused("finish, all empty," + in, Checks.ARGUMENT, LinkedIndex::new, x -> x.finish(slot));
            Checks.refused("drop" + in, Checks.ARGUMENT, Indexes::allUnderWay, x -> x.drop(slot));
            Checks.refused("drop, all empty," + in, Checks.ARGUMENT, LinkedIndex::new, x -> x.drop(slot));
            Checks.refused("kind" + in, Checks.ARGUMENT, Indexes::allUnderWay, x -> x.kind(slot));
            Checks.refused("kind, all empty," + in, Checks.ARGUMENT, LinkedIndex::new, x -> x.kind(slot));
        }
    }
}
