/**
 * Every call with arguments at, below and above the document's bounds, on objects with several pasts: the
 * answer is the plain model's, and a call that throws changes nothing.
 */
public final class EdgeArgumentsTest {
    private static final int[] EDGES = {Pasts.LEAST, -1, 0, 1, 2, 3, 4, 5, 6, 29, 30, 59, 60, 61, Pasts.MOST};
    private static final int[] ROWS = {Pasts.LEAST, -1, 0, 1, 5, 6, Pasts.MOST};

    private final Check check = new Check();

    public static void main(String[] args) {
        EdgeArgumentsTest test = new EdgeArgumentsTest();
        test.from("new", Pasts::none);
        test.from("ordinary", Pasts::ordinary);
        test.from("full row", Pasts::fullRow);
        test.from("30 versions", Pasts::thirtyVersions);
        test.check.finish();
    }

    private void from(String name, Check.Past past) {
        for (int a : EDGES) {
            compare(name + " clear " + a, past, x -> x.clear(a));
            compare(name + " size " + a, past, x -> x.size(a));
            compare(name + " commit " + a, past, x -> x.commit(a));
            for (int b : EDGES) {
                String args = " " + a + " " + b;
                compare(name + " put" + args, past, x -> x.put(a, b));
                compare(name + " get" + args, past, x -> x.get(a, b));
                compare(name + " common" + args, past, x -> x.common(a, b));
                compare(name + " pair" + args, past, x -> x.pair(a, b));
                compare(name + " hunks" + args, past, x -> x.hunks(a, b));
                compare(name + " hunk" + args, past, x -> x.hunk(a, b));
                compare(name + " conflict" + args, past, x -> x.conflict(a, b));
                compare(name + " origin" + args, past, x -> x.origin(a, b));
            }
        }
        for (int a : ROWS) {
            for (int b : ROWS) {
                for (int c : ROWS) {
                    for (int d : ROWS) {
                        String args = " " + a + " " + b + " " + c + " " + d;
                        compare(name + " merge" + args, past, x -> x.merge(a, b, c, d));
                        compare(name + " patch" + args, past, x -> x.patch(a, b, c, d));
                    }
                }
            }
        }
    }

    private void compare(String name, Check.Past past, Check.Call call) {
        Counted x = new Counted();
        PlainModel model = new PlainModel();
        past.on(x);
        past.on(model);
        check.same(name, Check.answer(() -> call.on(x)), Check.answer(() -> call.on(model)));
        check.same(name + ", and what comes of it", Told.of(x), Told.of(model));
    }
}
