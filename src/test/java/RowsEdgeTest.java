/** The boundary cases of promises 1 to 5, each sentence with a test of its own. */
public final class RowsEdgeTest {
    public static void main(String[] args) {
        Check check = new Check();
        newRowsAreEmpty(check);
        newHasNoVersions(check);
        newWasAskedNothing(check);
        newSharesNothing(check);
        putNoSuchRow(check);
        putSixRows(check);
        putSixtyLines(check);
        putOnARowThatCameFull(check);
        putAnyInt(check);
        clearNoSuchRow(check);
        clearEmptyAndFull(check);
        clearLeavesTheRest(check);
        sizeNoSuchRow(check);
        sizeFromEmptyToFull(check);
        getNoSuchRow(check);
        getNoSuchLine(check);
        getFirstAndLast(check);
        check.finish();
    }

    /** "All rows are empty", and in Terms 1 "empty at first". */
    private static void newRowsAreEmpty(Check check) {
        Counted x = new Counted();
        for (int k = 0; k < 6; k++) {
            int row = k;
            check.same("new size", x.size(row), 0);
            check.refused("new line 0", Check.NO_INDEX, () -> x.get(row, 0));
            check.refused("new line -1", Check.NO_INDEX, () -> x.get(row, -1));
            check.same("first line", x.put(row, 5), 1);
        }
    }

    /** "no versions". */
    private static void newHasNoVersions(Check check) {
        for (int version : new int[] {Pasts.LEAST, -1, 0, 1, 29, 30, Pasts.MOST}) {
            check.refusedUnchanged("new origin", Check.NO_ARGUMENT, Pasts::none, x -> x.origin(version, 0));
        }
        Counted x = new Counted();
        check.same("the first version", x.commit(0), 0);
        check.refused("it has no line", Check.NO_INDEX, () -> x.origin(0, 0));
        check.refused("version 1", Check.NO_ARGUMENT, () -> x.origin(1, 0));
    }

    /** "nothing was asked". */
    private static void newWasAskedNothing(Check check) {
        for (int what = 0; what < 4; what++) {
            int asked = what;
            check.refusedUnchanged("new pair", Check.NO_INDEX, Pasts::none, x -> x.pair(0, asked));
            check.refusedUnchanged("new hunk", Check.NO_INDEX, Pasts::none, x -> x.hunk(0, asked));
            check.refusedUnchanged("new conflict", Check.NO_INDEX, Pasts::none, x -> x.conflict(0, asked));
        }
        // Lines alone are no question.
        Counted x = new Counted();
        Check.fill(x, 0, 1, 2);
        Check.fill(x, 1, 1, 3);
        Check.fill(x, 2, 1, 4);
        check.refused("pair without common()", Check.NO_INDEX, () -> x.pair(0, 0));
        check.refused("hunk without hunks()", Check.NO_INDEX, () -> x.hunk(0, 0));
        check.refused("conflict without merge()", Check.NO_INDEX, () -> x.conflict(0, 0));
        x.common(0, 1);
        check.refused("common() is not hunks()", Check.NO_INDEX, () -> x.hunk(0, 0));
        x.patch(0, 1, 2, 3);
        check.refused("patch() is not hunks()", Check.NO_INDEX, () -> x.hunk(0, 0));
        x.hunks(0, 1);
        check.refused("hunks() is not merge()", Check.NO_INDEX, () -> x.conflict(0, 0));
        check.refused("nothing is a version", Check.NO_ARGUMENT, () -> x.origin(0, 0));
    }

    private static void newSharesNothing(Check check) {
        Counted used = new Counted();
        Pasts.ordinary(used);
        Counted fresh = new Counted();
        check.same("a new object beside a used one", Told.of(fresh), Told.of(new PlainModel()));
    }

    /** put: "IllegalArgumentException if there is no such row". */
    private static void putNoSuchRow(Check check) {
        for (int row : Pasts.NO_ROWS) {
            check.refusedUnchanged("put", Check.NO_ARGUMENT, Pasts::none, x -> x.put(row, 1));
            check.refusedUnchanged("put", Check.NO_ARGUMENT, Pasts::ordinary, x -> x.put(row, 1));
            check.refusedUnchanged("put, some row is full", Check.NO_ARGUMENT, Pasts::fullRow, x -> x.put(row, 1));
        }
    }

    /** "There are six ROWS, 0 .. 5". */
    private static void putSixRows(Check check) {
        Counted x = new Counted();
        for (int row = 0; row < 6; row++) {
            check.same("put", x.put(row, 10 + row), 1);
        }
        for (int row = 0; row < 6; row++) {
            check.lines("each row has its own line", x, row, 10 + row);
        }
    }

    /** put: "UnsupportedOperationException if it has 60", as a row is "of up to 60 LINES". */
    private static void putSixtyLines(Check check) {
        for (int k = 0; k < 6; k++) {
            int row = k;
            Counted x = new Counted();
            for (int line = 1; line <= 60; line++) {
                check.same("line more", x.put(row, line), line);
            }
            check.refused("line 61", Check.NO_ROOM, () -> x.put(row, 61));
            check.refused("line 61, again", Check.NO_ROOM, () -> x.put(row, 61));
            check.lines("60 lines", x, row, Check.rising(1, 60));
            check.same("the next row has room", x.put((row + 1) % 6, 1), 1);
        }
        for (int line : new int[] {Pasts.LEAST, -1, 0, 100, Pasts.MOST}) {
            check.refusedUnchanged("put on a full row", Check.NO_ROOM, Pasts::fullRow, x -> x.put(0, line));
        }
        Counted x = new Counted();
        Pasts.fullRow(x);
        check.same("a row of 59 has room", x.put(5, 7), 60);
        check.refused("then it is full", Check.NO_ROOM, () -> x.put(5, 7));
        x.clear(0);
        check.same("room again", x.put(0, 7), 1);
    }

    /** A row is full, too, if a merge or a patch made it so. */
    private static void putOnARowThatCameFull(Check check) {
        Counted x = new Counted();
        Check.fill(x, 0, Check.rising(0, 60));
        x.merge(0, 0, 0, 1);
        x.patch(2, 2, 0, 3);
        check.refused("merged", Check.NO_ROOM, () -> x.put(1, 5));
        check.refused("patched", Check.NO_ROOM, () -> x.put(3, 5));
        check.lines("merged", x, 1, Check.rising(0, 60));
        check.lines("patched", x, 3, Check.rising(0, 60));
        x.merge(2, 2, 2, 1);
        check.same("an empty one came in its place", x.put(1, 5), 1);
    }

    /** "LINES (ints)": every int is a line, NONE too. */
    private static void putAnyInt(Check check) {
        int[] lines = {Pasts.LEAST, Pasts.LEAST + 1, -2, MergeRows.NONE, 0, 1, Pasts.MOST - 1, Pasts.MOST};
        Counted x = new Counted();
        Check.fill(x, 0, lines);
        Check.fill(x, 1, lines);
        check.lines("lines", x, 0, lines);
        check.same("each is like itself alone", Check.asked(x.common(0, 1), 2, x::pair),
                "0,0 1,1 2,2 3,3 4,4 5,5 6,6 7,7");
        Check.fill(x, 1, Pasts.MOST);
        check.same("the largest", Check.asked(x.common(0, 1), 2, x::pair), "7,0");
        Check.fill(x, 1, Pasts.LEAST);
        check.same("the smallest", Check.asked(x.common(0, 1), 2, x::pair), "0,0");
    }

    /** clear: "IllegalArgumentException if there is no such row". */
    private static void clearNoSuchRow(Check check) {
        for (int row : Pasts.NO_ROWS) {
            check.refusedUnchanged("clear", Check.NO_ARGUMENT, Pasts::none, x -> x.clear(row));
            check.refusedUnchanged("clear", Check.NO_ARGUMENT, Pasts::ordinary, x -> x.clear(row));
        }
    }

    /** "A row is empty": whatever it had. */
    private static void clearEmptyAndFull(Check check) {
        for (int k = 0; k < 6; k++) {
            int row = k;
            Counted x = new Counted();
            x.clear(row);
            check.same("cleared when empty", x.size(row), 0);
            Check.fill(x, row, Check.rising(0, 60));
            x.clear(row);
            check.same("cleared when full", x.size(row), 0);
            check.refused("its first line", Check.NO_INDEX, () -> x.get(row, 0));
            check.refused("its last line", Check.NO_INDEX, () -> x.get(row, 59));
            check.same("as an empty one", x.common(row, row), 0);
            Check.fill(x, row, 7);
            x.clear(row);
            check.same("cleared with one line", x.size(row), 0);
        }
    }

    private static void clearLeavesTheRest(Check check) {
        Counted x = new Counted();
        Pasts.ordinary(x);
        x.clear(0);
        check.lines("row 1", x, 1, 1, 8, 3, 4);
        check.lines("row 5", x, 5);
        check.same("pairs", Check.asked(3, 2, x::pair), "0,0 2,2 3,3");
        check.same("hunks", Check.asked(2, 4, x::hunk), "1,1,1,2 3,1,4,1");
        check.same("conflict", Check.asked(1, 3, x::conflict), "1,1,2");
        check.same("version 0", Check.asked(1, 4, (k, what) -> x.origin(0, what)), "0,0,0,0");
    }

    /** size: "IllegalArgumentException if there is no such row". */
    private static void sizeNoSuchRow(Check check) {
        for (int row : Pasts.NO_ROWS) {
            check.refusedUnchanged("size", Check.NO_ARGUMENT, Pasts::none, x -> x.size(row));
            check.refusedUnchanged("size", Check.NO_ARGUMENT, Pasts::ordinary, x -> x.size(row));
        }
    }

    /** "How many lines a row has": none, one, 59, 60, and 60 still. */
    private static void sizeFromEmptyToFull(Check check) {
        Counted x = new Counted();
        check.same("empty", x.size(5), 0);
        for (int k = 1; k <= 60; k++) {
            x.put(5, 9);
            check.same("size", x.size(5), k);
        }
        check.refused("put", Check.NO_ROOM, () -> x.put(5, 9));
        check.same("full", x.size(5), 60);
        check.same("the row beside it", x.size(4), 0);
    }

    /** get: "IllegalArgumentException if there is no such row", whatever line is asked for. */
    private static void getNoSuchRow(Check check) {
        for (int row : Pasts.NO_ROWS) {
            for (int k : new int[] {Pasts.LEAST, -1, 0, 1, 59, 60, Pasts.MOST}) {
                check.refusedUnchanged("get", Check.NO_ARGUMENT, Pasts::ordinary, x -> x.get(row, k));
            }
        }
    }

    /** get: "IndexOutOfBoundsException if it has no such line". */
    private static void getNoSuchLine(Check check) {
        for (int k : Pasts.NO_INDICES) {
            check.refusedUnchanged("empty row", Check.NO_INDEX, Pasts::ordinary, x -> x.get(5, k));
            check.refusedUnchanged("four lines", Check.NO_INDEX, Pasts::ordinary, x -> x.get(0, k));
            check.refusedUnchanged("60 lines", Check.NO_INDEX, Pasts::fullRow, x -> x.get(0, k));
        }
        check.refusedUnchanged("line 0 of none", Check.NO_INDEX, Pasts::ordinary, x -> x.get(5, 0));
        check.refusedUnchanged("line 4 of four", Check.NO_INDEX, Pasts::ordinary, x -> x.get(0, 4));
        check.refusedUnchanged("line 5 of four", Check.NO_INDEX, Pasts::ordinary, x -> x.get(0, 5));
        check.refusedUnchanged("line 59 of 59", Check.NO_INDEX, Pasts::fullRow, x -> x.get(5, 59));
    }

    private static void getFirstAndLast(Check check) {
        Counted x = new Counted();
        Pasts.fullRow(x);
        check.same("the first line", x.get(0, 0), 100);
        check.same("the line ahead of the last", x.get(0, 58), 158);
        check.same("the last line", x.get(0, 59), 159);
        check.same("the last one of 59", x.get(5, 58), 258);
        check.same("the only line", x.get(1, 0), 159);
    }
}
