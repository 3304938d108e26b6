/** Promise 12: patch. */
public final class PatchTest {
    private static final int[] NO_ROWS = {-1, 6, Integer.MIN_VALUE, Integer.MAX_VALUE};

    public static void main(String[] args) {
        Check check = new Check();
        whereItFits(check);
        rejected(check);
        nearest(check);
        wantedMoves(check);
        notAheadOfTheLast(check);
        intoOneOfThem(check);
        fullOutcome(check);
        oneAfterAnother(check);
        wrongInputs(check);
        check.finish();
    }

    private static int[] row(int... lines) {
        return lines;
    }

    private static Counted filled(int[] a, int[] b, int[] c) {
        Counted x = new Counted();
        Check.fill(x, 0, a);
        Check.fill(x, 1, b);
        Check.fill(x, 2, c);
        return x;
    }

    private static void patched(Check check, Counted x, int rejected, int... lines) {
        check.same("rejected", x.patch(0, 1, 2, 3), rejected);
        check.lines("outcome", x, 3, lines);
    }

    private static void whereItFits(Check check) {
        int[] a = row(1, 2, 3);
        patched(check, filled(a, row(1, 9, 3), a), 0, 1, 9, 3);
        patched(check, filled(a, a, row(7, 7)), 0, 7, 7);
        patched(check, filled(a, row(1, 9, 3), row(5, 5, 1, 2, 3, 6)), 0, 5, 5, 1, 9, 3, 6);
        patched(check, filled(a, row(1, 3), row(0, 1, 2, 3)), 0, 0, 1, 3);
        patched(check, filled(a, row(1, 2, 8, 9, 3), row(2, 3, 4)), 0, 2, 8, 9, 3, 4);
        patched(check, filled(a, row(0, 1, 2, 3), row(4, 1, 5)), 0, 4, 0, 1, 5);
        patched(check, filled(a, row(1, 2, 3, 4), row(3, 5)), 0, 3, 4, 5);
        patched(check, filled(row(), row(8, 9), row(1, 2)), 0, 8, 9, 1, 2);
        patched(check, filled(row(), row(8, 9), row()), 0, 8, 9);
        patched(check, filled(a, row(), a), 0);
        patched(check, filled(a, row(), row(0, 1, 2, 3, 4)), 0, 0, 4);
        patched(check, filled(row(1, 2, 3, 4, 5), row(1, 8, 3, 9, 5), row(1, 2, 3, 4, 5)), 0, 1, 8, 3, 9, 5);
    }

    private static void rejected(Check check) {
        int[] a = row(1, 2, 3);
        patched(check, filled(a, row(1, 9, 3), row()), 1);
        patched(check, filled(a, row(1, 9, 3), row(7, 2, 3)), 1, 7, 2, 3);
        patched(check, filled(a, row(1, 9, 3), row(1, 2, 7)), 1, 1, 2, 7);
        patched(check, filled(a, row(1, 9, 3), row(1, 7, 3)), 1, 1, 7, 3);
        patched(check, filled(a, row(1, 9, 3), row(2, 3)), 1, 2, 3);
        patched(check, filled(a, row(1, 9, 3), row(1, 2)), 1, 1, 2);
        patched(check, filled(a, row(), row(1, 2)), 1, 1, 2);
        patched(check, filled(a, row(1, 2, 3, 4), row()), 1);
        patched(check, filled(row(1, 2, 3, 4, 5), row(1, 8, 3, 9, 5), row(1, 7, 3, 4, 5)), 1, 1, 7, 3, 9, 5);
        patched(check, filled(row(1, 2, 3, 4, 5), row(1, 8, 3, 9, 5), row(1, 2, 3, 7, 5)), 1, 1, 8, 3, 7, 5);
        patched(check, filled(row(1, 2, 3, 4, 5), row(1, 8, 3, 9, 5), row(6, 6)), 2, 6, 6);
    }

    private static void nearest(Check check) {
        patched(check, filled(row(0, 0, 1, 2), row(0, 0, 9, 2), row(0, 1, 2, 0, 1, 2)), 0, 0, 9, 2, 0, 1, 2);
        patched(check, filled(row(5, 6, 0, 1, 2), row(5, 6, 0, 9, 2), row(0, 1, 2, 0, 1, 2)), 0, 0, 1, 2, 0, 9, 2);
        patched(check, filled(row(1), row(9), row(0, 1, 1)), 0, 0, 9, 1);
        patched(check, filled(row(7, 7, 7, 1), row(7, 7, 7, 9), row(7, 1, 7, 7, 7, 1)), 0, 7, 9, 7, 7, 7, 1);
        patched(check, filled(row(7, 7, 7, 1), row(7, 7, 7, 9), row(0, 7, 1, 7, 1)), 0, 0, 7, 9, 7, 1);
        patched(check, filled(row(7, 7, 7, 1), row(7, 7, 7, 9), row(7, 1, 7, 7, 1)), 0, 7, 1, 7, 7, 9);
    }

    /**
     * A hunk is wanted where the one done before it was found, and off counts from its place in a;
     * a rejected hunk changes nothing of it.
     */
    private static void wantedMoves(Check check) {
        int[] a = row(1, 2, 3, 0, 0, 4, 5);
        int[] b = row(1, 9, 3, 0, 0, 4);
        patched(check, filled(a, b, row(6, 6, 6, 1, 2, 3, 4, 5, 0, 4, 5)), 0, 6, 6, 6, 1, 9, 3, 4, 5, 0, 4);

        int[] three = row(1, 10, 2, 20, 3, 30, 4);
        int[] threeNew = row(1, 11, 2, 21, 3, 31, 4);
        patched(check, filled(three, threeNew, row(0, 0, 0, 0, 1, 10, 2, 20, 3, 30, 4, 3, 30, 4)), 0,
                0, 0, 0, 0, 1, 11, 2, 21, 3, 31, 4, 3, 30, 4);
        patched(check, filled(three, threeNew, row(0, 0, 0, 0, 1, 10, 2, 20, 3, 0, 3, 30, 4, 3, 30, 4)), 0,
                0, 0, 0, 0, 1, 11, 2, 21, 3, 0, 3, 31, 4, 3, 30, 4);
        int[] off = row(0, 0, 0, 0, 0, 0, 1, 10, 2, 20, 3, 30, 4, 5, 3, 30, 4);
        patched(check, filled(three, threeNew, off), 0,
                0, 0, 0, 0, 0, 0, 1, 11, 2, 21, 3, 31, 4, 5, 3, 30, 4);

        // With 20 gone the second hunk is rejected, and the third one is still wanted 6 lines on.
        int[] gone = row(0, 0, 0, 0, 0, 0, 1, 10, 2, 3, 30, 4, 3, 30, 4);
        patched(check, filled(three, threeNew, gone), 1, 0, 0, 0, 0, 0, 0, 1, 11, 2, 3, 31, 4, 3, 30, 4);
        int[] far = row(0, 0, 0, 0, 0, 0, 1, 10, 2, 3, 30, 4, 0, 3, 30, 4);
        patched(check, filled(three, threeNew, far), 1, 0, 0, 0, 0, 0, 0, 1, 11, 2, 3, 31, 4, 0, 3, 30, 4);
        int[] cumulative = row(0, 0, 0, 0, 1, 10, 2, 20, 3, 3, 30, 4, 3, 30, 4);
        patched(check, filled(three, threeNew, cumulative), 0, 0, 0, 0, 0, 1, 11, 2, 21, 3, 3, 31, 4, 3, 30, 4);
        offCountsFromA(check);
        rejectedLeavesOff(check);
    }

    /** The second hunk lies where it is wanted; the third one fits near its place in a, too. */
    private static void offCountsFromA(Check check) {
        int[] a = row(1, 10, 2, 20, 3, 0, 0, 0, 0, 4, 30, 5);
        int[] b = row(1, 11, 2, 21, 3, 0, 0, 0, 0, 4, 31, 5);
        int[] c = row(8, 8, 8, 8, 1, 10, 2, 20, 3, 4, 30, 5, 0, 4, 30, 5);
        patched(check, filled(a, b, c), 0, 8, 8, 8, 8, 1, 11, 2, 21, 3, 4, 30, 5, 0, 4, 31, 5);
    }

    /** The second hunk is rejected; the third one is wanted 4 lines on, as the first one was off, and fits twice. */
    private static void rejectedLeavesOff(Check check) {
        int[] a = row(1, 10, 2, 20, 3, 0, 0, 0, 0, 4, 30, 5);
        int[] b = row(1, 11, 2, 21, 3, 0, 0, 0, 0, 4, 31, 5);
        int[] c = row(8, 8, 8, 8, 1, 10, 2, 7, 3, 4, 30, 5, 0, 4, 30, 5);
        patched(check, filled(a, b, c), 1, 8, 8, 8, 8, 1, 11, 2, 7, 3, 4, 30, 5, 0, 4, 31, 5);
    }

    private static void notAheadOfTheLast(Check check) {
        int[] a = row(1, 10, 2, 20, 3);
        int[] b = row(1, 11, 2, 21, 3);
        patched(check, filled(a, b, row(2, 20, 3, 1, 10, 2)), 1, 2, 20, 3, 1, 11, 2);
        patched(check, filled(row(5, 5, 5), row(5, 8, 5, 9, 5), row(5, 5)), 0, 5, 8, 9, 5);
        patched(check, filled(row(5, 5, 5), row(5, 8, 5, 9, 5), row(5, 5, 5)), 0, 5, 8, 5, 9, 5);
        // Both hunks lie side by side: the line ahead is that of c as it was.
        patched(check, filled(row(1, 2, 3, 2, 3, 4), row(1, 8, 3, 2, 9, 4), row(1, 2, 3, 4)), 0, 1, 8, 9, 4);
        patched(check, filled(row(4, 4, 6, 4, 4, 7), row(4, 8, 4, 6, 4, 9, 4, 7), row(4, 4)), 0, 4, 8, 9, 4);
    }

    private static void intoOneOfThem(Check check) {
        for (int to = 0; to < 3; to++) {
            Counted x = filled(row(1, 2, 3), row(1, 9, 9, 3), row(0, 1, 2, 3));
            check.same("rejected", x.patch(0, 1, 2, to), 0);
            check.lines("outcome", x, to, 0, 1, 9, 9, 3);
            check.lines("a", x, 0, to == 0 ? row(0, 1, 9, 9, 3) : row(1, 2, 3));
            check.lines("b", x, 1, to == 1 ? row(0, 1, 9, 9, 3) : row(1, 9, 9, 3));
            check.lines("c", x, 2, to == 2 ? row(0, 1, 9, 9, 3) : row(0, 1, 2, 3));
        }
        Counted x = filled(row(1, 2, 3), row(4), row());
        Check.fill(x, 3, 5, 5, 5, 5, 5);
        check.same("a is c", x.patch(0, 1, 0, 3), 0);
        check.lines("b came of it", x, 3, 4);
    }

    private static void fullOutcome(Check check) {
        Counted x = filled(row(), Check.rising(0, 30), Check.rising(100, 30));
        check.same("60 lines", x.patch(0, 1, 2, 3), 0);
        check.same("60 lines", x.size(3), 60);
        check.same("its last line", x.get(3, 59), 129);
        x.put(2, 500);
        check.refused("61 lines", Check.NO_ROOM, () -> x.patch(0, 1, 2, 3));
        check.same("unchanged size", x.size(3), 60);
        check.same("unchanged first line", x.get(3, 0), 0);
        check.refused("61 lines into c", Check.NO_ROOM, () -> x.patch(0, 1, 2, 2));
        check.same("c as it was", x.size(2), 31);
        Check.fill(x, 1, Check.rising(0, 60));
        Check.fill(x, 2, Check.rising(100, 60));
        check.refused("120 lines", Check.NO_ROOM, () -> x.patch(0, 1, 2, 4));
        check.same("unchanged row", x.size(4), 0);
        check.refused("no such row ahead of no room", Check.NO_ARGUMENT, () -> x.patch(0, 1, 2, -1));
        check.same("60 for 60", x.patch(2, 1, 2, 4), 0);
        check.lines("60 for 60", x, 4, Check.rising(0, 60));
    }

    private static void oneAfterAnother(Check check) {
        Counted x = filled(row(1, 2, 3), row(1, 9, 3), row(1, 2, 3));
        Check.fill(x, 4, 1, 2);
        for (int round = 0; round < 3; round++) {
            check.same("none rejected", x.patch(0, 1, 2, 3), 0);
            check.lines("done", x, 3, 1, 9, 3);
            check.same("one rejected", x.patch(0, 1, 4, 3), 1);
            check.lines("as c was", x, 3, 1, 2);
        }
        // Row 4 had a line behind its last one before.
        Check.fill(x, 4, 1, 2, 3);
        Check.fill(x, 4, 1, 2);
        check.same("a line that is gone does not fit", x.patch(0, 1, 4, 3), 1);
    }

    private static void wrongInputs(Check check) {
        Counted x = filled(row(1, 2, 3), row(1, 8, 3), row(1, 2, 3));
        Check.fill(x, 3, 5);
        for (int no : NO_ROWS) {
            check.refused("a", Check.NO_ARGUMENT, () -> x.patch(no, 1, 2, 3));
            check.refused("b", Check.NO_ARGUMENT, () -> x.patch(0, no, 2, 3));
            check.refused("c", Check.NO_ARGUMENT, () -> x.patch(0, 1, no, 3));
            check.refused("to", Check.NO_ARGUMENT, () -> x.patch(0, 1, 2, no));
        }
        check.lines("unchanged", x, 3, 5);
    }
}
