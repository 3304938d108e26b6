/** Promises 10 and 11: merge and conflict. */
public final class MergeTest {
    private static final int[] NO_ROWS = {-1, 6, Integer.MIN_VALUE, Integer.MAX_VALUE};

    public static void main(String[] args) {
        Check check = new Check();
        withoutConflict(check);
        withConflict(check);
        anchors(check);
        intoOneOfThem(check);
        fullOutcome(check);
        manyConflicts(check);
        keptConflicts(check);
        oneAfterAnother(check);
        wrongInputs(check);
        check.finish();
    }

    private static int[] row(int... lines) {
        return lines;
    }

    private static Counted filled(int[] base, int[] left, int[] right) {
        Counted x = new Counted();
        Check.fill(x, 0, base);
        Check.fill(x, 1, left);
        Check.fill(x, 2, right);
        return x;
    }

    private static void merged(Check check, Counted x, String conflicts, int... lines) {
        int count = x.merge(0, 1, 2, 3);
        check.same("conflicts", Check.asked(count, 3, x::conflict), conflicts);
        check.refused("conflict behind the last", Check.NO_INDEX, () -> x.conflict(count, 0));
        check.lines("outcome", x, 3, lines);
    }

    private static void withoutConflict(Check check) {
        int[] base = row(1, 2, 3, 4);
        merged(check, filled(base, base, base), "", 1, 2, 3, 4);
        merged(check, filled(base, row(1, 9, 3, 4), base), "", 1, 9, 3, 4);
        merged(check, filled(base, base, row(1, 9, 3, 4)), "", 1, 9, 3, 4);
        merged(check, filled(base, row(1, 9, 3, 4), row(1, 9, 3, 4)), "", 1, 9, 3, 4);
        merged(check, filled(base, row(0, 1, 2, 3, 4), row(1, 2, 3, 4, 5)), "", 0, 1, 2, 3, 4, 5);
        merged(check, filled(base, row(1, 2, 4), row(1, 2, 4)), "", 1, 2, 4);
        merged(check, filled(base, row(2, 3, 4), row(1, 2, 3)), "", 2, 3);
        merged(check, filled(base, row(), base), "");
        merged(check, filled(row(), row(7, 8), row()), "", 7, 8);
        merged(check, filled(row(), row(), row(7, 8)), "", 7, 8);
        merged(check, filled(row(), row(7, 8), row(7, 8)), "", 7, 8);
    }

    private static void withConflict(Check check) {
        int[] base = row(1, 2, 3, 4);
        merged(check, filled(base, row(1, 9, 3, 4), row(1, 7, 7, 4)), "1,2,2", 1, 9, 3, 7, 7, 4);
        merged(check, filled(base, row(8, 2, 3, 4), row(9, 2, 3, 4)), "0,1,1", 8, 9, 2, 3, 4);
        merged(check, filled(base, row(1, 2, 3, 8), row(1, 2, 3, 9, 9)), "3,1,2", 1, 2, 3, 8, 9, 9);
        merged(check, filled(base, row(1, 3, 4), row(1, 9, 3, 4)), "1,0,1", 1, 9, 3, 4);
        merged(check, filled(base, row(1, 9, 3, 4), row(1, 3, 4)), "1,1,0", 1, 9, 3, 4);
        merged(check, filled(base, row(), row(5)), "0,0,1", 5);
        merged(check, filled(row(), row(5), row(6, 7)), "0,1,2", 5, 6, 7);
        merged(check, filled(base, row(8, 2, 6, 4, 5), row(9, 2, 7, 4)), "0,1,1 3,1,1", 8, 9, 2, 6, 7, 4, 5);
        merged(check, filled(row(1), row(1, 2, 3), row(1, 2)), "1,2,1", 1, 2, 3, 2);
    }

    /** Only a place of the base that has a pair on both sides is an anchor. */
    private static void anchors(Check check) {
        merged(check, filled(row(1, 2, 3), row(1, 3, 2), row(1, 3, 5)), "1,2,2", 1, 3, 2, 3, 5);
        merged(check, filled(row(1, 2, 3), row(2, 3), row(1, 3)), "0,1,1", 2, 1, 3);
        merged(check, filled(row(1, 2), row(2, 1), row(2)), "0,2,1", 2, 1, 2);
        merged(check, filled(row(4, 4), row(4), row(4, 4, 4)), "1,0,2", 4, 4, 4);
    }

    private static void intoOneOfThem(Check check) {
        for (int to = 0; to < 3; to++) {
            Counted x = filled(row(1, 2, 3), row(1, 8, 3), row(1, 9, 3, 4));
            check.same("conflicts", x.merge(0, 1, 2, to), 1);
            check.lines("outcome", x, to, 1, 8, 9, 3, 4);
            check.lines("base", x, 0, to == 0 ? row(1, 8, 9, 3, 4) : row(1, 2, 3));
            check.lines("left", x, 1, to == 1 ? row(1, 8, 9, 3, 4) : row(1, 8, 3));
            check.lines("right", x, 2, to == 2 ? row(1, 8, 9, 3, 4) : row(1, 9, 3, 4));
        }
        Counted x = filled(row(1, 2, 3), row(), row());
        check.same("one row for all", x.merge(0, 0, 0, 0), 0);
        check.lines("unchanged", x, 0, 1, 2, 3);
        Check.fill(x, 3, 5, 5, 5, 5, 5);
        check.same("the same row twice", x.merge(0, 1, 1, 3), 0);
        check.lines("old lines are gone", x, 3);
    }

    private static void fullOutcome(Check check) {
        Counted x = filled(row(), Check.rising(0, 30), Check.rising(100, 30));
        check.same("60 lines", x.merge(0, 1, 2, 3), 1);
        check.same("60 lines", x.size(3), 60);
        check.same("its last line", x.get(3, 59), 129);
        x.put(2, 500);
        check.refused("61 lines", Check.NO_ROOM, () -> x.merge(0, 1, 2, 3));
        check.same("unchanged size", x.size(3), 60);
        check.same("unchanged line", x.get(3, 59), 129);
        check.same("unchanged conflict", Check.asked(1, 3, x::conflict), "0,30,30");
        check.refused("61 lines into left", Check.NO_ROOM, () -> x.merge(0, 1, 2, 1));
        check.lines("left as it was", x, 1, Check.rising(0, 30));
        Check.fill(x, 1, Check.rising(0, 60));
        Check.fill(x, 2, Check.rising(100, 60));
        check.refused("120 lines", Check.NO_ROOM, () -> x.merge(0, 1, 2, 4));
        check.same("unchanged row", x.size(4), 0);
        check.same("60 lines of left", x.merge(0, 1, 0, 4), 0);
        check.lines("left's", x, 4, Check.rising(0, 60));
        check.refused("no such row ahead of no room", Check.NO_ARGUMENT, () -> x.merge(0, 1, 2, 6));
        Check.fill(x, 0, Check.rising(0, 60));
        check.same("60 anchors", x.merge(0, 0, 0, 5), 0);
        check.lines("60 anchors", x, 5, Check.rising(0, 60));
    }

    private static void manyConflicts(Check check) {
        Counted x = new Counted();
        for (int k = 0; k < 29; k++) {
            x.put(0, k);
            x.put(1, k % 2 == 0 ? 100 + k : k);
            x.put(2, k % 2 == 0 ? 200 + k : k);
        }
        check.same("15 conflicts", x.merge(0, 1, 2, 3), 15);
        check.same("size", x.size(3), 44);
        for (int k = 0; k < 15; k++) {
            check.same("conflict", x.conflict(k, 0) + "," + x.conflict(k, 1) + "," + x.conflict(k, 2),
                    3 * k + ",1,1");
        }
    }

    private static void keptConflicts(Check check) {
        Counted x = filled(row(1, 2, 3), row(1, 8, 3), row(1, 9, 9, 3));
        x.merge(0, 1, 2, 3);
        x.common(0, 1);
        x.hunks(0, 2);
        x.patch(0, 1, 2, 4);
        x.commit(3);
        x.clear(0);
        x.clear(3);
        check.same("kept", Check.asked(1, 3, x::conflict), "1,1,2");
        check.refused("merge", Check.NO_ARGUMENT, () -> x.merge(0, 1, 2, 6));
        check.same("kept behind a throw", Check.asked(1, 3, x::conflict), "1,1,2");
        Check.fill(x, 4, Check.rising(0, 60));
        check.refused("merge", Check.NO_ROOM, () -> x.merge(3, 4, 2, 5));
        check.same("kept behind a full one", Check.asked(1, 3, x::conflict), "1,1,2");
        check.refused("no more of them", Check.NO_INDEX, () -> x.conflict(1, 0));
        check.same("no conflict", x.merge(1, 1, 1, 3), 0);
        check.refused("none is left", Check.NO_INDEX, () -> x.conflict(0, 0));
    }

    private static void oneAfterAnother(Check check) {
        Counted x = filled(row(1, 2, 3), row(1, 8, 3), row(9, 2, 3));
        for (int round = 0; round < 4; round++) {
            check.same("one conflict", Check.asked(x.merge(0, 1, 2, 3), 3, x::conflict), "0,2,2");
            check.lines("outcome", x, 3, 1, 8, 9, 2, 3);
            check.same("none", x.merge(0, 1, 0, 3), 0);
            check.lines("left's", x, 3, 1, 8, 3);
            check.same("none", x.merge(0, 0, 2, 3), 0);
            check.lines("right's", x, 3, 9, 2, 3);
        }
        // The right row's pairs end ahead of the left one's.
        Check.fill(x, 1, 1, 2, 3, 4);
        Check.fill(x, 0, 1, 2, 3, 4);
        Check.fill(x, 2, 1);
        check.same("right takes out", x.merge(0, 1, 2, 3), 0);
        check.lines("one line is left", x, 3, 1);
    }

    private static void wrongInputs(Check check) {
        Counted x = filled(row(1, 2, 3), row(1, 8, 3), row(1, 9, 9, 3));
        x.merge(0, 1, 2, 3);
        for (int no : NO_ROWS) {
            check.refused("base", Check.NO_ARGUMENT, () -> x.merge(no, 1, 2, 3));
            check.refused("left", Check.NO_ARGUMENT, () -> x.merge(0, no, 2, 3));
            check.refused("right", Check.NO_ARGUMENT, () -> x.merge(0, 1, no, 3));
            check.refused("to", Check.NO_ARGUMENT, () -> x.merge(0, 1, 2, no));
        }
        check.lines("unchanged", x, 3, 1, 8, 9, 9, 3);
        for (int k : new int[] {-1, 1, 61, Integer.MIN_VALUE, Integer.MAX_VALUE}) {
            check.refused("conflict k", Check.NO_INDEX, () -> x.conflict(k, 0));
        }
        for (int what : new int[] {-1, 3, Integer.MIN_VALUE, Integer.MAX_VALUE}) {
            check.refused("conflict what", Check.NO_INDEX, () -> x.conflict(0, what));
        }
    }
}
