import java.util.ArrayList;
import java.util.List;

/** "An object is used for at most 512 calls after it has been made": up to the last one the answers are due. */
public final class CallsTest {
    private static final List<Check.Call> CALLS = List.of(
            x -> x.put(3, 5), x -> x.clear(0), x -> x.size(2), x -> x.get(2, 4), x -> x.common(1, 2), x -> x.pair(2, 0),
            x -> x.hunks(1, 2), x -> x.hunk(1, 2), x -> x.merge(0, 1, 2, 5), x -> x.conflict(0, 2),
            x -> x.patch(0, 1, 2, 5), x -> x.commit(3), x -> x.origin(1, 2), x -> x.put(6, 0), x -> x.get(0, 60));

    private final Check check = new Check();

    public static void main(String[] args) {
        CallsTest test = new CallsTest();
        test.theLastCallOfEachKind();
        test.theLastCallShowsTheOneBefore();
        test.manyOfOneKind();
        test.fullRowsOverAndOver();
        test.check.finish();
    }

    private static final class Both {
        final Counted x = new Counted();
        final PlainModel model = new PlainModel();
        int calls = 0;
    }

    private void call(Both both, String what, Check.Call call) {
        both.calls++;
        check.same(what + ", call " + both.calls, Check.answer(() -> call.on(both.x)),
                Check.answer(() -> call.on(both.model)));
    }

    private Both started() {
        Both both = new Both();
        List<Check.Call> lines = new ArrayList<>();
        int[][] rows = {{1, 2, 3, 4}, {1, 8, 3, 4}, {1, 9, 9, 3, 5}};
        for (int row = 0; row < rows.length; row++) {
            for (int line : rows[row]) {
                int to = row;
                lines.add(x -> x.put(to, line));
            }
        }
        for (Check.Call put : lines) {
            call(both, "put", put);
        }
        for (Check.Call next : List.<Check.Call>of(x -> x.merge(0, 1, 2, 3), x -> x.commit(0), x -> x.commit(3),
                x -> x.common(0, 2), x -> x.hunks(0, 2))) {
            call(both, "start", next);
        }
        return both;
    }

    private void fillUpTo(Both both, int calls) {
        for (int k = 0; both.calls < calls; k++) {
            // Without put and clear, so that the rows are still those of the start.
            call(both, "on the way", CALLS.get(2 + k % (CALLS.size() - 2)));
        }
    }

    private void theLastCallOfEachKind() {
        for (int k = 0; k < CALLS.size(); k++) {
            Both both = started();
            fillUpTo(both, 511);
            call(both, "kind " + k, CALLS.get(k));
            check.same("it was the last one", both.x.hasCallsLeft(), false);
        }
    }

    private void theLastCallShowsTheOneBefore() {
        List<List<Check.Call>> ends = List.of(
                List.of(x -> x.put(4, 77), x -> x.get(4, 0)),
                List.of(x -> x.clear(2), x -> x.size(2)),
                List.of(x -> x.common(1, 0), x -> x.pair(1, 1)),
                List.of(x -> x.hunks(2, 0), x -> x.hunk(0, 3)),
                List.of(x -> x.merge(4, 1, 2, 0), x -> x.conflict(0, 2)),
                List.of(x -> x.patch(0, 1, 0, 2), x -> x.get(2, 1)),
                List.of(x -> x.merge(0, 1, 2, 4), x -> x.get(4, 2)));
        for (List<Check.Call> end : ends) {
            Both both = started();
            fillUpTo(both, 510);
            call(both, "the last but one", end.get(0));
            call(both, "the last", end.get(1));
            check.same("it was the last one", both.x.hasCallsLeft(), false);
        }
    }

    private void manyOfOneKind() {
        for (int k = 0; k < CALLS.size(); k++) {
            Both both = started();
            while (both.calls < 512) {
                call(both, "kind " + k + " again", CALLS.get(k));
            }
        }
    }

    private void fullRowsOverAndOver() {
        List<Check.Call> dearest = List.of(x -> x.common(0, 1), x -> x.hunks(1, 0), x -> x.merge(0, 1, 2, 3),
                x -> x.patch(0, 1, 2, 4), x -> x.patch(0, 2, 1, 5), x -> x.commit(1), x -> x.commit(2),
                x -> x.merge(1, 0, 2, 4), x -> x.conflict(3, 1), x -> x.pair(40, 1), x -> x.origin(20, 59));
        Both both = new Both();
        for (int k = 0; k < 60; k++) {
            int line = k;
            call(both, "put", x -> x.put(0, line % 7));
            call(both, "put", x -> x.put(1, line % 5));
            call(both, "put", x -> x.put(2, line % 11 == 0 ? 6 : line % 7));
        }
        for (int k = 0; both.calls < 512; k++) {
            call(both, "full rows", dearest.get(k % dearest.size()));
        }
    }
}
