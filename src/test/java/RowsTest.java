/** Promises 1 to 5: a new object, put, clear, size and get. */
public final class RowsTest {
    private static final int[] NO_ROWS = {-1, 6, 7, Integer.MIN_VALUE, Integer.MAX_VALUE};

    public static void main(String[] args) {
        Check check = new Check();
        newObject(check);
        putAndGet(check);
        fullRow(check);
        clearing(check);
        wrongRows(check);
        check.finish();
    }

    private static void newObject(Check check) {
        Counted x = new Counted();
        for (int row = 0; row < 6; row++) {
            int asked = row;
            check.same("new size", x.size(row), 0);
            check.refused("new get", Check.NO_INDEX, () -> x.get(asked, 0));
        }
        check.refused("new pair", Check.NO_INDEX, () -> x.pair(0, 0));
        check.refused("new hunk", Check.NO_INDEX, () -> x.hunk(0, 0));
        check.refused("new conflict", Check.NO_INDEX, () -> x.conflict(0, 0));
        check.refused("new origin", Check.NO_ARGUMENT, () -> x.origin(0, 0));
        check.same("common of empty rows", x.common(0, 5), 0);
        check.same("hunks of empty rows", x.hunks(0, 5), 0);
        check.same("merge of empty rows", x.merge(0, 1, 2, 3), 0);
        check.same("patch of empty rows", x.patch(0, 1, 2, 3), 0);
        check.same("first version", x.commit(4), 0);
    }

    private static void putAndGet(Check check) {
        Counted x = new Counted();
        for (int row = 0; row < 6; row++) {
            check.same("first put", x.put(row, row * 10), 1);
            check.same("second put", x.put(row, Integer.MIN_VALUE + row), 2);
            check.same("third put", x.put(row, Integer.MAX_VALUE - row), 3);
        }
        for (int row = 0; row < 6; row++) {
            int asked = row;
            check.lines("lines put", x, row, row * 10, Integer.MIN_VALUE + row, Integer.MAX_VALUE - row);
            check.refused("get ahead", Check.NO_INDEX, () -> x.get(asked, -1));
            check.refused("get behind", Check.NO_INDEX, () -> x.get(asked, 3));
            check.refused("get far behind", Check.NO_INDEX, () -> x.get(asked, Integer.MAX_VALUE));
            check.refused("get far ahead", Check.NO_INDEX, () -> x.get(asked, Integer.MIN_VALUE));
        }
    }

    private static void fullRow(Check check) {
        Counted x = new Counted();
        for (int k = 0; k < 60; k++) {
            check.same("put", x.put(2, 100 + k), k + 1);
        }
        check.refused("put on a full row", Check.NO_ROOM, () -> x.put(2, 5));
        check.lines("full row", x, 2, Check.rising(100, 60));
        check.same("another row has room", x.put(1, 5), 1);
        check.refused("get 60", Check.NO_INDEX, () -> x.get(2, 60));
        x.clear(2);
        check.same("room again", x.put(2, 7), 1);
    }

    private static void clearing(Check check) {
        Counted x = new Counted();
        Check.fill(x, 0, 1, 2, 3);
        Check.fill(x, 1, 4, 5);
        x.clear(0);
        check.same("cleared size", x.size(0), 0);
        check.refused("cleared get", Check.NO_INDEX, () -> x.get(0, 0));
        check.lines("the other row", x, 1, 4, 5);
        x.clear(0);
        check.same("cleared twice", x.size(0), 0);
        check.same("put behind clear", x.put(0, 9), 1);
        check.lines("new lines", x, 0, 9);
        check.refused("old line", Check.NO_INDEX, () -> x.get(0, 1));
    }

    private static void wrongRows(Check check) {
        Counted x = new Counted();
        for (int row : NO_ROWS) {
            check.refused("put", Check.NO_ARGUMENT, () -> x.put(row, 1));
            check.refused("clear", Check.NO_ARGUMENT, () -> {
                x.clear(row);
                return 0;
            });
            check.refused("size", Check.NO_ARGUMENT, () -> x.size(row));
            check.refused("get", Check.NO_ARGUMENT, () -> x.get(row, 0));
            check.refused("get, both wrong", Check.NO_ARGUMENT, () -> x.get(row, -1));
        }
        for (int row = 0; row < 6; row++) {
            check.same("still empty", x.size(row), 0);
        }
    }
}
