/** What each call does and answers, a test of its own for each promise's first sentence. */
public final class AnswersTest {
    public static void main(String[] args) {
        Check check = new Check();
        put(check);
        clear(check);
        size(check);
        get(check);
        common(check);
        pair(check);
        hunks(check);
        hunk(check);
        merge(check);
        conflict(check);
        patch(check);
        commit(check);
        origin(check);
        check.finish();
    }

    private static int[] row(int... lines) {
        return lines;
    }

    /** put: "A line more of a row: how many it has." */
    private static void put(Check check) {
        Counted x = new Counted();
        check.same("the first", x.put(3, 70), 1);
        check.same("one more", x.put(3, 60), 2);
        check.same("the same line again", x.put(3, 60), 3);
        check.lines("behind the others", x, 3, 70, 60, 60);
        check.same("of another row", x.put(4, 70), 1);
        check.same("back to the first row", x.put(3, 50), 4);
        x.merge(3, 3, 3, 4);
        check.same("behind merged lines", x.put(4, 1), 5);
        x.patch(4, 5, 4, 4);
        check.same("behind none, as a patch took them out", x.put(4, 1), 1);
    }

    /** clear: "A row is empty." */
    private static void clear(Check check) {
        Counted x = Check.filled(row(1, 2), row(3, 4), row(5, 6));
        x.clear(1);
        check.lines("the row", x, 1);
        check.lines("the row ahead of it", x, 0, 1, 2);
        check.lines("the row behind it", x, 2, 5, 6);
        check.same("nothing in common with it", x.common(0, 1) + x.common(1, 0), 0);
        check.same("its first line", x.put(1, 9), 1);
        check.lines("none of the old ones", x, 1, 9);
    }

    /** size: "How many lines a row has." */
    private static void size(Check check) {
        Counted x = Check.filled(row(), row(1), row(1, 1), row(1, 2, 3), row(), row(9, 9, 9, 9, 9));
        int[] due = {0, 1, 2, 3, 0, 5};
        for (int k = 0; k < 6; k++) {
            check.same("size of row " + k, x.size(k), due[k]);
        }
        x.merge(0, 5, 0, 1);
        check.same("as many as were merged", x.size(1), 5);
        x.patch(3, 0, 3, 5);
        check.same("as many as a patch left", x.size(5), 0);
    }

    /** get: "A line." */
    private static void get(Check check) {
        Counted x = Check.filled(row(10, 11, 12), row(20), row(), row(30, 31));
        check.same("lines of row 0", x.get(0, 0) + "," + x.get(0, 1) + "," + x.get(0, 2), "10,11,12");
        check.same("line of row 1", x.get(1, 0), 20);
        check.same("lines of row 3, last first", x.get(3, 1) + "," + x.get(3, 0), "31,30");
        check.same("asked again", x.get(0, 1), 11);
    }

    /** common: "The COMMON of two rows: how many pairs." */
    private static void common(Check check) {
        Counted x = Check.filled(row(1, 2, 3, 4), row(1, 9, 3, 4), row(4, 3), row());
        check.same("three pairs", x.common(0, 1), 3);
        check.same("one pair", x.common(0, 2), 1);
        check.same("no pair", x.common(0, 3), 0);
        check.same("as many as lines", x.common(0, 0), 4);
        check.lines("a stays", x, 0, 1, 2, 3, 4);
        check.lines("b stays", x, 1, 1, 9, 3, 4);
    }

    /** pair: "the place in a (side 0), in b (1)". */
    private static void pair(Check check) {
        Counted x = Check.filled(row(9, 1, 9, 2, 9, 9, 3), row(1, 2, 3));
        x.common(0, 1);
        check.same("places in a", x.pair(0, 0) + "," + x.pair(1, 0) + "," + x.pair(2, 0), "1,3,6");
        check.same("places in b", x.pair(0, 1) + "," + x.pair(1, 1) + "," + x.pair(2, 1), "0,1,2");
        x.common(1, 0);
        check.same("places in a, the other way", x.pair(0, 0) + "," + x.pair(1, 0) + "," + x.pair(2, 0), "0,1,2");
        check.same("places in b, the other way", x.pair(0, 1) + "," + x.pair(1, 1) + "," + x.pair(2, 1), "1,3,6");
        check.same("pairs asked for in any order", x.pair(2, 1) + "," + x.pair(0, 1), "6,1");
    }

    /** hunks: "The HUNKS of two rows: how many." */
    private static void hunks(Check check) {
        Counted x = Check.filled(row(1, 2, 3, 4), row(1, 9, 3, 4), row(0, 1, 3, 5), row());
        check.same("one", x.hunks(0, 1), 1);
        check.same("three: ahead, between and behind", x.hunks(0, 2), 3);
        check.same("one of all lines", x.hunks(0, 3), 1);
        check.same("none", x.hunks(0, 0), 0);
        check.lines("a stays", x, 0, 1, 2, 3, 4);
        check.lines("b stays", x, 2, 0, 1, 3, 5);
    }

    /** hunk: "0 where it begins in a, 1 how many lines there, 2, 3 likewise in b". */
    private static void hunk(Check check) {
        Counted x = Check.filled(row(1, 2, 3, 4, 5, 6), row(7, 7, 7, 1, 8, 8, 8, 8, 6));
        check.same("two hunks", x.hunks(0, 1), 2);
        check.same("where they begin in a", x.hunk(0, 0) + "," + x.hunk(1, 0), "0,1");
        check.same("how many lines there", x.hunk(0, 1) + "," + x.hunk(1, 1), "0,4");
        check.same("where they begin in b", x.hunk(0, 2) + "," + x.hunk(1, 2), "0,4");
        check.same("how many lines in b", x.hunk(0, 3) + "," + x.hunk(1, 3), "3,4");
        x.hunks(1, 0);
        check.same("the other way", Check.asked(2, 4, x::hunk), "0,3,0,0 4,4,1,4");
    }

    /** merge: "MERGES three rows into one .. how many CONFLICTS." */
    private static void merge(Check check) {
        Counted x = Check.filled(row(1, 2, 3, 4, 5), row(8, 2, 3, 4, 6), row(9, 2, 3, 4, 7), row(1, 2, 0, 4, 5));
        check.same("two conflicts", x.merge(0, 1, 2, 5), 2);
        check.lines("all of both", x, 5, 8, 9, 2, 3, 4, 6, 7);
        check.same("none", x.merge(0, 1, 3, 5), 0);
        check.lines("what each changed", x, 5, 8, 2, 0, 4, 6);
        check.same("right and left the other way", x.merge(0, 2, 1, 5), 2);
        check.lines("left's first", x, 5, 9, 8, 2, 3, 4, 7, 6);
        check.lines("base stays", x, 0, 1, 2, 3, 4, 5);
        check.lines("left stays", x, 1, 8, 2, 3, 4, 6);
        check.lines("right stays", x, 2, 9, 2, 3, 4, 7);
    }

    /** conflict: "0 where it begins in what came of it, 1 how many lines are left's, 2 right's". */
    private static void conflict(Check check) {
        int[] left = row(1, 20, 21, 2, 3, 40, 41, 42, 4);
        int[] right = row(1, 50, 2, 3, 60, 61, 4);
        Counted x = Check.filled(row(1, 2, 3, 4), left, right);
        check.same("two conflicts", x.merge(0, 1, 2, 3), 2);
        check.same("where they begin", x.conflict(0, 0) + "," + x.conflict(1, 0), "1,6");
        check.same("how many lines are left's", x.conflict(0, 1) + "," + x.conflict(1, 1), "2,3");
        check.same("how many are right's", x.conflict(0, 2) + "," + x.conflict(1, 2), "1,2");
        check.lines("they lie there", x, 3, 1, 20, 21, 50, 2, 3, 40, 41, 42, 60, 61, 4);
        // What came without a conflict counts for where the next one begins, not the base or left.
        Counted y = Check.filled(row(1, 2, 3), row(2, 8), row(5, 6, 1, 2, 9));
        check.same("conflicts", Check.asked(y.merge(0, 1, 2, 3), 3, y::conflict), "0,0,3 4,1,1");
        check.lines("they lie there", y, 3, 5, 6, 1, 2, 8, 9);
    }

    /** patch: "PATCHES row c with what makes b of a, into a row .. how many hunks are REJECTED." */
    private static void patch(Check check) {
        Counted x = Check.filled(row(1, 2, 3, 4, 5), row(1, 8, 3, 9, 5), row(0, 1, 2, 3, 7, 5, 6));
        check.same("one of two", x.patch(0, 1, 2, 5), 1);
        check.lines("the other one is done", x, 5, 0, 1, 8, 3, 7, 5, 6);
        check.same("none", x.patch(0, 1, 0, 5), 0);
        check.lines("b", x, 5, 1, 8, 3, 9, 5);
        check.same("both", x.patch(1, 0, 2, 5), 2);
        check.lines("c", x, 5, 0, 1, 2, 3, 7, 5, 6);
        check.lines("a stays", x, 0, 1, 2, 3, 4, 5);
        check.lines("b stays", x, 1, 1, 8, 3, 9, 5);
        check.lines("c stays", x, 2, 0, 1, 2, 3, 7, 5, 6);
    }

    /** commit: "A row is copied as a version: its number." */
    private static void commit(Check check) {
        Counted x = Check.filled(row(1, 2), row(2, 3));
        check.same("the first", x.commit(1), 0);
        check.same("the next one", x.commit(0), 1);
        check.same("an empty row", x.commit(4), 2);
        check.same("a row again", x.commit(1), 3);
        check.refused("no more than these", Check.NO_ARGUMENT, () -> x.origin(4, 0));
        check.lines("the row stays", x, 1, 2, 3);
    }

    /** origin: "The ORIGIN of line k of a version." */
    private static void origin(Check check) {
        Counted x = Check.filled(row(1, 2), row(1, 5, 2), row(5, 2, 6));
        x.commit(0);
        x.commit(1);
        x.commit(2);
        check.same("version 0", x.origin(0, 0) + "," + x.origin(0, 1), "0,0");
        check.same("version 1", x.origin(1, 0) + "," + x.origin(1, 1) + "," + x.origin(1, 2), "0,1,0");
        check.same("version 2", x.origin(2, 0) + "," + x.origin(2, 1) + "," + x.origin(2, 2), "1,0,2");
        check.same("version 1 again", x.origin(1, 1), 1);
    }
}
