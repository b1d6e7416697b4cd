/** Promise by promise, what the calls do with ordinary inputs; the edges are in BoundariesTest. */
public final class PromisesTest {
    public static void main(String[] args) {
        Checks.test("1: LinkedIndex", PromisesTest::newObject);
        Checks.test("2: begin", PromisesTest::begin);
        Checks.test("3: step", PromisesTest::step);
        Checks.test("4: finish of FIND", PromisesTest::finishFind);
        Checks.test("4: finish of PUT", PromisesTest::finishPut);
        Checks.test("4: finish of TAKE", PromisesTest::finishTake);
        Checks.test("4: finish of NEXT", PromisesTest::finishNext);
        Checks.test("4: finish in any order", PromisesTest::finishInAnyOrder);
        Checks.test("5: drop", PromisesTest::drop);
        Checks.test("6: tidy", PromisesTest::tidy);
        Checks.test("7: crash", PromisesTest::crash);
        Checks.test("8: kind", PromisesTest::kind);
        Checks.test("9: size", PromisesTest::size);
        Checks.test("10 and 11: key and value", PromisesTest::keyAndValue);
        Checks.test("12 and 13: count and sum", PromisesTest::countAndSum);
        Checks.end();
    }

    private static void newObject() {
        LinkedIndex x = new LinkedIndex();
        LinkedIndex y = new LinkedIndex();
        Indexes.put(x, 5, 50);
        x.begin(3, LinkedIndex.FIND, 5, 0);
        Checks.due("keys of one", Indexes.text(x), "5=50");
        Checks.due("keys of the other", Indexes.text(y), "");
        Checks.due("kinds of the other", Indexes.kinds(y), Indexes.ALL_EMPTY);
    }

    private static void begin() {
        LinkedIndex x = Indexes.withKeys(5);
        for (int slot = 0; slot < 8; slot++) {
            x.begin(slot, slot % 4, 5, 7);
        }
        Checks.due("kinds", Indexes.kinds(x), "0 1 2 3 0 1 2 3");
        Checks.due("keys before a finish", Indexes.text(x), "5=50");
        Checks.due("slot 7 has its own operation", x.finish(7), 5L);
        Checks.due("slot 0 has its own operation", x.finish(0), 50L);
        x.begin(0, LinkedIndex.PUT, 6, 61);
        Checks.due("a slot is used again", x.finish(0), 0L);
        Checks.due("keys after PUT", Indexes.text(x), "5=50 6=61");
    }

    private static void step() {
        LinkedIndex x = Indexes.underWay();
        for (int slot = 0; slot < 4; slot++) {
            x.step(slot, 3);
            x.step(slot, 5);
        }
        Checks.due("keys after steps", Indexes.text(x), "10=100 20=200 30=300");
        Checks.due("FIND after steps", x.finish(0), 200L);
        Checks.due("PUT after steps", x.finish(1), 0L);
        Checks.due("TAKE after steps", x.finish(2), 300L);
        Checks.due("NEXT after steps", x.finish(3), 15L);
        Checks.due("keys after all", Indexes.text(x), "10=100 15=150 20=200");
    }

    private static void finishFind() {
        LinkedIndex x = Indexes.withKeys(1, 2, 3);
        x.begin(4, LinkedIndex.FIND, 2, 99);
        Checks.due("FIND 2", x.finish(4), 20L);
        Checks.due("keys", Indexes.text(x), "1=10 2=20 3=30");
    }

    private static void finishPut() {
        LinkedIndex x = new LinkedIndex();
        Checks.due("PUT 5", Indexes.put(x, 5, 50), 0L);
        Checks.due("PUT 7", Indexes.put(x, 7, 70), 0L);
        Checks.due("PUT 3", Indexes.put(x, 3, 30), 0L);
        Checks.due("PUT 6", Indexes.put(x, 6, 60), 0L);
        Checks.due("PUT 5 again", Indexes.put(x, 5, 51), 1L);
        Checks.due("keys", Indexes.text(x), "3=30 5=51 6=60 7=70");
    }

    private static void finishTake() {
        LinkedIndex x = Indexes.withKeys(1, 2, 3, 4);
        Checks.due("TAKE 2", Indexes.take(x, 2), 20L);
        Checks.due("keys", Indexes.text(x), "1=10 3=30 4=40");
        Checks.due("PUT 2 again", Indexes.put(x, 2, 21), 0L);
        Checks.due("keys after it", Indexes.text(x), "1=10 2=21 3=30 4=40");
    }

    private static void finishNext() {
        LinkedIndex x = Indexes.withKeys(10, 20, 30);
        Checks.due("NEXT 14", Indexes.next(x, 14), 20L);
        Checks.due("keys", Indexes.text(x), "10=100 20=200 30=300");
    }

    private static void finishInAnyOrder() {
        LinkedIndex x = Indexes.withKeys(5);
        x.begin(1, LinkedIndex.FIND, 5, 0);
        x.begin(2, LinkedIndex.PUT, 5, 51);
        x.begin(3, LinkedIndex.TAKE, 5, 0);
        x.begin(4, LinkedIndex.PUT, 5, 52);
        x.begin(5, LinkedIndex.NEXT, 1, 0);
        Checks.due("PUT that began later", x.finish(2), 1L);
        Checks.due("FIND sees it", x.finish(1), 51L);
        Checks.due("TAKE sees it", x.finish(3), 51L);
        Checks.due("PUT sees that it is gone", x.finish(4), 0L);
        Checks.due("NEXT sees what was put again", x.finish(5), 5L);
    }

    private static void drop() {
        LinkedIndex x = Indexes.underWay();
        x.step(1, 4);
        Checks.due("drop of PUT", x.drop(1), true);
        Checks.due("drop of TAKE", x.drop(2), true);
        Checks.due("drop of an empty slot", x.drop(4), false);
        Checks.due("kinds", Indexes.kinds(x), "0 -1 -1 3 -1 -1 -1 -1");
        Checks.due("keys", Indexes.text(x), "10=100 20=200 30=300");
    }

    private static void tidy() {
        LinkedIndex x = Indexes.underWay();
        x.finish(2);
        x.tidy(5);
        Checks.due("kinds", Indexes.kinds(x), "0 1 -1 3 -1 -1 -1 -1");
        Checks.due("keys", Indexes.text(x), "10=100 20=200");
        Checks.due("PUT after it", x.finish(1), 0L);
    }

    private static void crash() {
        LinkedIndex x = Indexes.underWay();
        x.finish(1);
        Checks.due("crash", x.crash(), 3);
        Checks.due("kinds", Indexes.kinds(x), Indexes.ALL_EMPTY);
        Checks.due("what has finished is there, what has not is not", Indexes.text(x), "10=100 15=150 20=200 30=300");
        Checks.due("PUT after it", Indexes.put(x, 30, 1), 1L);
    }

    private static void kind() {
        LinkedIndex x = new LinkedIndex();
        for (int slot = 0; slot < 8; slot++) {
            for (int kind = 0; kind < 4; kind++) {
                x.begin(slot, kind, 1, 1);
                Checks.due("kind(" + slot + ")", x.kind(slot), kind);
                x.drop(slot);
            }
        }
    }

    private static void size() {
        LinkedIndex x = Indexes.withKeys(1, 2, 3);
        Checks.due("three", x.size(), 3);
        Indexes.take(x, 2);
        Checks.due("two", x.size(), 2);
    }

    private static void keyAndValue() {
        LinkedIndex x = Indexes.withKeys(30, 10, 20);
        Checks.due("key(1)", x.key(1), 20L);
        Checks.due("value(1)", x.value(1), 200L);
        Indexes.put(x, 15, 1);
        Checks.due("key(1) after PUT", x.key(1), 15L);
        Checks.due("value(1) after PUT", x.value(1), 1L);
    }

    private static void countAndSum() {
        LinkedIndex x = Indexes.withKeys(10, 20, 30, 40);
        Checks.due("count", x.count(15, 35), 2);
        Checks.due("sum", x.sum(15, 35), 500L);
        Indexes.put(x, 20, -200);
        Checks.due("count after PUT", x.count(15, 35), 2);
        Checks.due("sum after PUT", x.sum(15, 35), 100L);
    }
}
