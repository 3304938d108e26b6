/** "A call that throws changes nothing.": every call that can throw, in every way, one after another. */
public final class RefusedTest {
    private static final int ROUNDS = 2;

    private final Check check = new Check();
    private int calls = 0;

    public static void main(String[] args) {
        RefusedTest test = new RefusedTest();
        Counted with = new Counted();
        Counted without = new Counted();
        start(with);
        start(without);
        for (int round = 0; round < ROUNDS; round++) {
            test.refuse(with);
        }
        test.check.same("what both of them tell", Told.of(with), Told.of(without));
        test.check.finish();
    }

    /** Row 0 is full, there are 30 versions, and pairs, hunks and conflicts were asked for. */
    private static void start(Face x) {
        Check.fill(x, 0, Check.rising(100, 60));
        Check.fill(x, 1, 100, 7);
        Check.fill(x, 2, 100, 8, 9);
        for (int version = 0; version < 30; version++) {
            x.commit(version % 3 == 0 ? 1 : 2);
        }
        x.merge(5, 1, 2, 3);
        x.common(1, 2);
        x.hunks(2, 1);
    }

    private void refuse(Face x) {
        no(Check.NO_ARGUMENT, x, y -> y.put(6, 1), y -> y.put(-1, 1), y -> y.clear(6), y -> y.clear(-1));
        no(Check.NO_ARGUMENT, x, y -> y.size(6), y -> y.size(-1), y -> y.get(6, 0), y -> y.get(-1, 0));
        no(Check.NO_ARGUMENT, x, y -> y.common(0, 6), y -> y.common(6, 0), y -> y.hunks(0, 6), y -> y.hunks(6, 0));
        no(Check.NO_ARGUMENT, x, y -> y.merge(6, 1, 2, 4), y -> y.merge(0, 6, 2, 4), y -> y.merge(0, 1, 6, 4));
        no(Check.NO_ARGUMENT, x, y -> y.merge(1, 1, 2, 6), y -> y.patch(6, 1, 2, 4), y -> y.patch(0, 6, 2, 4));
        no(Check.NO_ARGUMENT, x, y -> y.patch(0, 1, 6, 4), y -> y.patch(1, 2, 1, 6), y -> y.commit(6));
        no(Check.NO_ARGUMENT, x, y -> y.origin(30, 0), y -> y.origin(-1, 0));
        no(Check.NO_INDEX, x, y -> y.get(0, 60), y -> y.get(5, 0), y -> y.pair(1, 0), y -> y.pair(0, 2));
        no(Check.NO_INDEX, x, y -> y.hunk(1, 0), y -> y.hunk(0, 4), y -> y.conflict(1, 0), y -> y.conflict(0, 3));
        no(Check.NO_INDEX, x, y -> y.origin(29, 3));
        no(Check.NO_ROOM, x, y -> y.put(0, 5), y -> y.commit(0), y -> y.merge(5, 0, 1, 2), y -> y.patch(5, 1, 0, 1));
    }

    private void no(Class<? extends RuntimeException> due, Face x, Check.Call... refused) {
        for (Check.Call call : refused) {
            calls++;
            check.refused("call " + calls, due, () -> call.on(x));
        }
    }
}
