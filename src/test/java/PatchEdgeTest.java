/** The boundary cases of promise 12 and of Terms 4, each sentence with a test of its own. */
public final class PatchEdgeTest {
    public static void main(String[] args) {
        Check check = new Check();
        noSuchRow(check);
        intoOneOfThem(check);
        sixtyLines(check);
        moreThanSixtyOnTheWay(check);
        noHunk(check);
        linesStandFromThePlaceOn(check);
        lineAheadIfThereIsOne(check);
        lineBehindIfThereIsOne(check);
        putInBetween(check);
        notAheadOfTheEnd(check);
        wantedAtFirst(check);
        wantedBehindOneThatWasOff(check);
        wantedBeyondTheRow(check);
        ofTwoTheFirst(check);
        rejectedCount(check);
        check.finish();
    }

    private static int[] row(int... lines) {
        return lines;
    }

    private static void fill(Face x, int[] a, int[] b, int[] c) {
        Check.fill(x, 0, a);
        Check.fill(x, 1, b);
        Check.fill(x, 2, c);
    }

    private static Counted filled(int[] a, int[] b, int[] c) {
        Counted x = new Counted();
        fill(x, a, b, c);
        return x;
    }

    private static void patched(Check check, Counted x, int rejected, int... lines) {
        check.same("rejected", x.patch(0, 1, 2, 3), rejected);
        check.lines("outcome", x, 3, lines);
    }

    private static void done(Check check, int[] a, int[] b, int[] c, int... lines) {
        patched(check, filled(a, b, c), 0, lines);
    }

    /** The only hunk is rejected, and c comes as it is. */
    private static void refused(Check check, int[] a, int[] b, int... c) {
        patched(check, filled(a, b, c), 1, c);
    }

    private static int[] withLine(int[] lines, int place, int line) {
        int[] longer = new int[lines.length + 1];
        System.arraycopy(lines, 0, longer, 0, place);
        longer[place] = line;
        System.arraycopy(lines, place, longer, place + 1, lines.length - place);
        return longer;
    }

    private static void sixtyOne(Face x) {
        fill(x, row(), Check.rising(0, 30), Check.rising(100, 31));
        x.hunks(0, 2);
        x.commit(1);
    }

    /** "Exceptions as for merge()": "IllegalArgumentException if there is no such row". */
    private static void noSuchRow(Check check) {
        for (int no : Pasts.NO_ROWS) {
            check.refusedUnchanged("a", Check.NO_ARGUMENT, Pasts::ordinary, x -> x.patch(no, 1, 2, 3));
            check.refusedUnchanged("b", Check.NO_ARGUMENT, Pasts::ordinary, x -> x.patch(0, no, 2, 3));
            check.refusedUnchanged("c", Check.NO_ARGUMENT, Pasts::ordinary, x -> x.patch(0, 1, no, 3));
            check.refusedUnchanged("to", Check.NO_ARGUMENT, Pasts::ordinary, x -> x.patch(0, 1, 0, no));
            check.refusedUnchanged("all", Check.NO_ARGUMENT, Pasts::ordinary, x -> x.patch(no, no, no, no));
            check.refusedUnchanged("new", Check.NO_ARGUMENT, Pasts::none, x -> x.patch(0, 1, 2, no));
            check.refusedUnchanged("too long as well", Check.NO_ARGUMENT, PatchEdgeTest::sixtyOne,
                    x -> x.patch(0, 1, 2, no));
        }
        Counted x = new Counted();
        Check.fill(x, 0, 1, 2);
        check.same("from the first row into the last", x.patch(5, 0, 5, 5), 0);
        check.lines("its lines came", x, 5, 1, 2);
        check.same("from the last row into the first", x.patch(5, 4, 5, 0), 0);
        check.lines("its lines went", x, 0);
    }

    /** "into a row (which may be one of them)". */
    private static void intoOneOfThem(Check check) {
        int[] due = row(0, 1, 9, 9, 3);
        for (int to = 0; to < 6; to++) {
            Counted x = filled(row(1, 2, 3), row(1, 9, 9, 3), row(0, 1, 2, 3));
            Check.fill(x, 4, 7, 7, 7, 7, 7, 7);
            check.same("rejected", x.patch(0, 1, 2, to), 0);
            check.lines("a", x, 0, to == 0 ? due : row(1, 2, 3));
            check.lines("b", x, 1, to == 1 ? due : row(1, 9, 9, 3));
            check.lines("c", x, 2, to == 2 ? due : row(0, 1, 2, 3));
            check.lines("row 3", x, 3, to == 3 ? due : row());
            check.lines("row 4", x, 4, to == 4 ? due : row(7, 7, 7, 7, 7, 7));
            check.lines("row 5", x, 5, to == 5 ? due : row());
        }
        Counted x = filled(row(1, 2, 3), row(1, 4), row());
        check.same("all of them one", x.patch(0, 0, 0, 0), 0);
        check.lines("as it was", x, 0, 1, 2, 3);
        check.same("a is c, into it", x.patch(0, 1, 0, 0), 0);
        check.lines("b came of it", x, 0, 1, 4);
        check.same("b is c, into a", x.patch(2, 1, 1, 2), 0);
        check.lines("twice b", x, 2, 1, 4, 1, 4);
    }

    /** "Exceptions as for merge()": "UnsupportedOperationException if it would have more than 60 lines". */
    private static void sixtyLines(Check check) {
        done(check, row(), row(5), Check.rising(100, 58), withLine(Check.rising(100, 58), 0, 5));
        done(check, row(), row(5), Check.rising(100, 59), withLine(Check.rising(100, 59), 0, 5));
        for (int to = 0; to < 6; to++) {
            int asked = to;
            check.refusedUnchanged("61 lines", Check.NO_ROOM, PatchEdgeTest::sixtyOne, x -> x.patch(0, 1, 2, asked));
        }
        check.refusedUnchanged("a line put into a full row", Check.NO_ROOM,
                x -> fill(x, row(), row(5), Check.rising(100, 60)), x -> x.patch(0, 1, 2, 3));
        check.refusedUnchanged("a line put behind a full row", Check.NO_ROOM,
                x -> fill(x, row(159), row(159, 5), Check.rising(100, 60)), x -> x.patch(0, 1, 2, 2));
        // A line for a line, or none as it is rejected: 60 lines stay 60.
        int[] last = Check.rising(100, 60);
        last[59] = 5;
        done(check, row(159), row(5), Check.rising(100, 60), last);
        refused(check, row(7), row(7, 5), Check.rising(100, 60));
        Counted most = filled(row(), Check.rising(0, 60), Check.rising(100, 60));
        check.refused("120 lines", Check.NO_ROOM, () -> most.patch(0, 1, 2, 2));
        check.lines("c as it was", most, 2, Check.rising(100, 60));
    }

    /** The first hunk puts a line in, the last one takes one out: 60 lines come of it. */
    private static void moreThanSixtyOnTheWay(Check check) {
        int[] full = Check.rising(100, 60);
        done(check, full, withLine(Check.rising(100, 59), 0, 5), full, withLine(Check.rising(100, 59), 0, 5));
        int[] a = row(100, 101, 102);
        int[] b = row(5, 100, 101);
        int[] without = Check.rising(101, 59);
        without[0] = 100;
        without[1] = 101;
        done(check, a, b, full, withLine(without, 0, 5));
        // If the line that is to be taken out isn't there, there would be 61.
        int[] other = Check.rising(100, 60);
        other[2] = 7;
        check.refusedUnchanged("61 as one hunk is rejected", Check.NO_ROOM, x -> fill(x, a, b, other),
                x -> x.patch(0, 1, 2, 3));
    }

    private static void noHunk(Check check) {
        done(check, row(), row(), row());
        done(check, row(), row(), row(1, 2), 1, 2);
        done(check, row(5), row(5), row(1, 2), 1, 2);
        done(check, row(5), row(5), row());
        done(check, Check.rising(0, 60), Check.rising(0, 60), Check.rising(7, 60), Check.rising(7, 60));
    }

    /** "the lines of a's part stand in c from p on". */
    private static void linesStandFromThePlaceOn(Check check) {
        done(check, row(1, 2), row(), row(1, 2));
        done(check, row(1, 2), row(), row(0, 1, 2), 0);
        done(check, row(1, 2), row(), row(1, 2, 0), 0);
        done(check, row(1, 2), row(), row(1, 1, 2, 2), 1, 2);
        refused(check, row(1, 2), row());
        refused(check, row(1, 2), row(), 1);
        refused(check, row(1, 2), row(), 2);
        refused(check, row(1, 2), row(), 2, 1);
        refused(check, row(1, 2), row(), 1, 0, 2);
        int[] full = Check.rising(0, 60);
        done(check, full, row(), full);
        refused(check, full, row(), Check.rising(0, 59));
        refused(check, full, row(), Check.rising(1, 59));
        refused(check, full, row(), Check.rising(1, 60));
    }

    /** "the line ahead of it in a, if there is one, stands in c ahead of p". */
    private static void lineAheadIfThereIsOne(Check check) {
        done(check, row(1), row(9), row(1), 9);
        done(check, row(1), row(9), row(6, 1), 6, 9);
        done(check, row(7, 1), row(7, 9), row(7, 1), 7, 9);
        done(check, row(7, 1), row(7, 9), row(6, 7, 1), 6, 7, 9);
        refused(check, row(7, 1), row(7, 9), 1);
        refused(check, row(7, 1), row(7, 9), 6, 1);
        refused(check, row(7, 1), row(7, 9), 7, 6, 1);
        refused(check, row(7, 1), row(7, 9), 7);
        // The line ahead of that one does not matter.
        done(check, row(8, 7, 1), row(8, 7, 9), row(5, 7, 1), 5, 7, 9);
    }

    /** "the line behind it, if there is one, behind them". */
    private static void lineBehindIfThereIsOne(Check check) {
        done(check, row(1), row(9), row(1, 6), 9, 6);
        done(check, row(1, 7), row(9, 7), row(1, 7), 9, 7);
        done(check, row(1, 7), row(9, 7), row(6, 1, 7), 6, 9, 7);
        refused(check, row(1, 7), row(9, 7), 1);
        refused(check, row(1, 7), row(9, 7), 1, 6);
        refused(check, row(1, 7), row(9, 7), 1, 6, 7);
        refused(check, row(1, 7), row(9, 7), 7);
        done(check, row(1, 7, 8), row(9, 7, 8), row(1, 7, 5), 9, 7, 5);
        int[] full = Check.rising(0, 60);
        int[] due = Check.rising(0, 60);
        due[58] = 99;
        done(check, full, due, full, due);
        refused(check, full, due, Check.rising(0, 59));
        // A line that c had, but has no more.
        Counted x = filled(row(1, 7), row(9, 7), row(1, 7));
        Check.fill(x, 2, 1);
        patched(check, x, 1, 1);
    }

    /** A hunk without lines of a has a place, too, with the lines round it. */
    private static void putInBetween(Check check) {
        done(check, row(1, 2), row(1, 5, 2), row(1, 2), 1, 5, 2);
        done(check, row(1, 2), row(1, 5, 2), row(0, 0, 1, 2, 0), 0, 0, 1, 5, 2, 0);
        refused(check, row(1, 2), row(1, 5, 2));
        refused(check, row(1, 2), row(1, 5, 2), 1);
        refused(check, row(1, 2), row(1, 5, 2), 2);
        refused(check, row(1, 2), row(1, 5, 2), 2, 1);
        refused(check, row(1, 2), row(1, 5, 2), 1, 3, 2);
        done(check, row(1), row(5, 1), row(1), 5, 1);
        done(check, row(1), row(5, 1), row(0, 1), 0, 5, 1);
        refused(check, row(1), row(5, 1));
        refused(check, row(1), row(5, 1), 2);
        done(check, row(1), row(1, 5), row(1), 1, 5);
        done(check, row(1), row(1, 5), row(1, 0), 1, 5, 0);
        refused(check, row(1), row(1, 5));
        refused(check, row(1), row(1, 5), 2);
        done(check, row(), row(5), row(), 5);
        done(check, row(), row(5), row(1, 2), 5, 1, 2);
    }

    /** "p isn't ahead of the end of where the hunk before was done". */
    private static void notAheadOfTheEnd(Check check) {
        // At the end: both put in at place 1; or put in there, and the line behind taken out.
        done(check, row(1, 1, 1), row(1, 5, 1, 6, 1), row(1, 1), 1, 5, 6, 1);
        done(check, row(1, 1, 1), row(1, 5, 1), row(1, 1), 1, 5);
        // At the end of a line that is replaced, which is the line ahead.
        done(check, row(1, 2, 3, 2, 3, 4), row(1, 8, 3, 2, 9, 4), row(1, 2, 3, 4), 1, 8, 9, 4);
        // One place ahead of the end, where nothing was taken out, and where a line was.
        patched(check, filled(row(3, 1, 3), row(3, 5, 1, 9), row(1, 3, 1)), 1, 1, 3, 5, 1);
        patched(check, filled(row(1, 2, 3, 9, 2, 3, 9), row(1, 8, 9, 2, 7, 9), row(1, 2, 3, 9)), 1, 1, 8, 9);
        // One place behind the end.
        done(check, row(3, 1, 3), row(3, 5, 1, 9), row(1, 3, 1, 3), 1, 3, 5, 1, 9);
        // Far ahead of it.
        patched(check, filled(row(1, 10, 2, 20, 3), row(1, 11, 2, 21, 3), row(2, 20, 3, 1, 10, 2)), 1,
                2, 20, 3, 1, 11, 2);
        // A rejected hunk has no end: the next one may be done ahead of where it was wanted.
        patched(check, filled(row(1, 10, 2, 20, 3), row(1, 11, 2, 21, 3), row(2, 20, 3)), 1, 2, 21, 3);
    }

    /** "WANTED is where the part begins in a, plus .. (0 at first)". */
    private static void wantedAtFirst(Check check) {
        int[] a = row(7, 7, 7, 7, 1);
        int[] b = row(7, 7, 7, 7, 9);
        done(check, a, b, row(7, 1, 7, 7, 1), 7, 1, 7, 7, 9);
        done(check, a, b, row(7, 1, 7, 7, 1, 7, 1), 7, 1, 7, 7, 9, 7, 1);
        done(check, a, b, row(7, 1, 7, 1, 0, 7, 1), 7, 1, 7, 9, 0, 7, 1);
        done(check, row(1), row(9), row(1, 1, 1), 9, 1, 1);
    }

    /** "plus by how much the hunk that was done before was off". */
    private static void wantedBehindOneThatWasOff(Check check) {
        int[] a = row(1, 2, 0, 3);
        int[] b = row(1, 9, 0, 4);
        // The first one is 2 lines off: of the places 3 and 5 the second one is wanted.
        done(check, a, b, row(8, 8, 1, 2, 0, 3, 0, 3), 8, 8, 1, 9, 0, 4, 0, 3);
        done(check, a, b, row(8, 8, 8, 8, 1, 2, 0, 0, 3, 0, 3), 8, 8, 8, 8, 1, 9, 0, 0, 4, 0, 3);
        // The first one is 3 lines ahead of its place in a.
        int[] late = row(6, 6, 6, 1, 2, 0, 3);
        int[] lateNew = row(6, 6, 6, 1, 9, 0, 4);
        done(check, late, lateNew, row(1, 2, 0, 3, 0, 3), 1, 9, 0, 4, 0, 3);
        // Without a hunk done before, a rejected one changes nothing of it.
        patched(check, filled(late, lateNew, row(0, 3, 0, 0, 0, 0, 3)), 1, 0, 3, 0, 0, 0, 0, 4);
    }

    private static void wantedBeyondTheRow(Check check) {
        int[] a = Check.rising(0, 60);
        int[] b = Check.rising(0, 60);
        b[59] = 99;
        done(check, a, b, row(58, 59), 58, 99);
        done(check, a, b, row(58, 59, 58, 59), 58, 59, 58, 99);
        // As far behind as it can be: wanted at 0, found at 59.
        done(check, row(5), row(6), withLine(Check.rising(100, 59), 59, 5), withLine(Check.rising(100, 59), 59, 6));
    }

    /** "Of the places that fit the one nearest to WANTED, of two the first one". */
    private static void ofTwoTheFirst(Check check) {
        int[] a = row(7, 7, 7, 1);
        int[] b = row(7, 7, 7, 9);
        // Wanted is 3: places 2 and 4, 1 and 5.
        done(check, a, b, row(0, 7, 1, 7, 1), 0, 7, 9, 7, 1);
        done(check, a, b, row(7, 1, 0, 0, 7, 1), 7, 9, 0, 0, 7, 1);
        // One line nearer behind, and one nearer ahead.
        done(check, a, b, row(7, 1, 0, 7, 1), 7, 1, 0, 7, 9);
        done(check, a, b, row(0, 7, 1, 0, 7, 1), 0, 7, 9, 0, 7, 1);
        // The place itself, with two beside it.
        done(check, row(5, 5, 5, 5), row(5, 5, 5, 5, 9), row(5, 5, 5, 5, 5), 5, 5, 5, 5, 9, 5);
        // Only ones behind: the first of them.
        done(check, a, b, row(0, 0, 0, 0, 7, 1, 7, 1), 0, 0, 0, 0, 7, 9, 7, 1);
    }

    /** "Without one the hunk is REJECTED": none, some and all of them. */
    private static void rejectedCount(Check check) {
        int[] a = row(1, 10, 2, 20, 3, 30, 4);
        int[] b = row(1, 11, 2, 21, 3, 31, 4);
        patched(check, filled(a, b, a), 0, b);
        patched(check, filled(a, b, row(1, 10, 2, 20, 3, 0, 4)), 1, 1, 11, 2, 21, 3, 0, 4);
        patched(check, filled(a, b, row(1, 10, 2, 0, 3, 30, 4)), 1, 1, 11, 2, 0, 3, 31, 4);
        patched(check, filled(a, b, row(1, 0, 2, 20, 3, 30, 4)), 1, 1, 0, 2, 21, 3, 31, 4);
        patched(check, filled(a, b, row(1, 0, 2, 0, 3, 30, 4)), 2, 1, 0, 2, 0, 3, 31, 4);
        patched(check, filled(a, b, row(1, 0, 2, 0, 3, 0, 4)), 3, 1, 0, 2, 0, 3, 0, 4);
        patched(check, filled(a, b, row()), 3);
        Counted again = filled(a, b, row(1, 0, 2, 0, 3, 0, 4));
        for (int round = 0; round < 3; round++) {
            patched(check, again, 3, 1, 0, 2, 0, 3, 0, 4);
            check.same("each call counts its own", again.patch(0, 1, 0, 3), 0);
        }
        Counted x = new Counted();
        for (int k = 0; k < 40; k++) {
            x.put(k % 2, 100 + k);
            x.put(0, k);
            x.put(1, k);
        }
        check.same("40 done", x.patch(0, 1, 0, 2), 0);
        check.lines("b came of it", x, 2, Check.read(x, 1));
        check.same("40 rejected", x.patch(0, 1, 4, 3), 40);
        check.lines("as c was", x, 3);
    }
}
