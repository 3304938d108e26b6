import java.util.ArrayList;
import java.util.List;

/** Promises 6 to 9: common, pair, hunks and hunk. */
public final class CommonTest {
    private static final int[] NO_ROWS = {-1, 6, Integer.MIN_VALUE, Integer.MAX_VALUE};

    public static void main(String[] args) {
        Check check = new Check();
        pairs(check);
        hunks(check);
        longRows(check);
        manyHunks(check);
        allShortRows(check);
        keptAnswers(check);
        wrongInputs(check);
        check.finish();
    }

    private static String pairsOf(int[] a, int[] b) {
        Counted x = new Counted();
        Check.fill(x, 0, a);
        Check.fill(x, 1, b);
        return Check.asked(x.common(0, 1), 2, x::pair);
    }

    private static String hunksOf(int[] a, int[] b) {
        Counted x = new Counted();
        Check.fill(x, 4, a);
        Check.fill(x, 5, b);
        return Check.asked(x.hunks(4, 5), 4, x::hunk);
    }

    private static int[] row(int... lines) {
        return lines;
    }

    private static void pairs(Check check) {
        check.same("one line changed", pairsOf(row(1, 2, 3, 4), row(1, 9, 3, 4)), "0,0 2,2 3,3");
        check.same("nothing in common", pairsOf(row(1, 2), row(3, 4)), "");
        check.same("one empty", pairsOf(row(), row(3, 4)), "");
        check.same("other empty", pairsOf(row(3, 4), row()), "");
        check.same("a's first place", pairsOf(row(7, 7, 7), row(7)), "0,0");
        check.same("b's first place", pairsOf(row(7), row(7, 7, 7)), "0,0");
        check.same("a's places ahead of b's", pairsOf(row(1, 2), row(2, 1)), "0,1");
        check.same("a's places ahead of b's, other way", pairsOf(row(2, 1), row(1, 2)), "0,1");
        check.same("as many as there can be", pairsOf(row(3, 1, 2), row(1, 2, 3)), "1,0 2,1");
        check.same("all of a's places compared", pairsOf(row(1, 2, 3, 1, 2), row(1, 3, 2, 1)), "0,0 1,2 3,3");
        check.same("a's second place, then b's", pairsOf(row(1, 5, 6), row(1, 6, 1, 5)), "0,0 1,3");
        check.same("not the greedy pair", pairsOf(row(2, 2, 1, 2, 1), row(1, 2)), "2,0 3,1");
        check.same("extreme lines", pairsOf(row(Integer.MIN_VALUE, -1, Integer.MAX_VALUE),
                row(-1, Integer.MIN_VALUE, Integer.MAX_VALUE)), "0,1 2,2");
        Counted x = new Counted();
        Check.fill(x, 3, 4, 4, 5);
        check.same("a row with itself", Check.asked(x.common(3, 3), 2, x::pair), "0,0 1,1 2,2");
    }

    private static void hunks(Check check) {
        check.same("equal rows", hunksOf(row(1, 2), row(1, 2)), "");
        check.same("both empty", hunksOf(row(), row()), "");
        check.same("all put in", hunksOf(row(), row(1, 2)), "0,0,0,2");
        check.same("all taken out", hunksOf(row(1, 2), row()), "0,2,0,0");
        check.same("nothing in common", hunksOf(row(1, 2), row(3)), "0,2,0,1");
        check.same("ahead of the first", hunksOf(row(1, 2), row(9, 1, 2)), "0,0,0,1");
        check.same("behind the last", hunksOf(row(1, 2, 8), row(1, 2)), "2,1,2,0");
        check.same("between", hunksOf(row(1, 2, 3), row(1, 8, 9, 3)), "1,1,1,2");
        check.same("ahead, between, behind", hunksOf(row(5, 1, 2, 6), row(1, 7, 2, 8, 9)),
                "0,1,0,0 2,0,1,1 3,1,3,2");
    }

    private static void longRows(Check check) {
        Counted x = new Counted();
        Check.fill(x, 0, Check.rising(0, 60));
        Check.fill(x, 1, Check.rising(0, 60));
        check.same("60 pairs", x.common(0, 1), 60);
        check.same("the last pair", x.pair(59, 0) + "," + x.pair(59, 1), "59,59");
        check.refused("pair 60", Check.NO_INDEX, () -> x.pair(60, 0));
        check.same("no hunks", x.hunks(0, 1), 0);
        Counted y = new Counted();
        for (int k = 0; k < 60; k++) {
            y.put(0, k % 2 == 0 ? 1000 + k : k);
            y.put(1, k % 2 == 0 ? 2000 + k : k);
        }
        check.same("30 pairs", y.common(0, 1), 30);
        check.same("30 hunks", y.hunks(0, 1), 30);
        check.same("the last hunk", Check.asked(30, 4, y::hunk).endsWith("58,1,58,1"), true);
        Counted z = new Counted();
        Check.fill(z, 0, Check.rising(0, 30));
        for (int k = 0; k < 60; k++) {
            z.put(1, k % 2 == 0 ? 2000 + k : k / 2);
        }
        check.same("30 lines put in", z.hunks(0, 1), 30);
        check.same("taken out again", z.hunks(1, 0), 30);
        check.same("hunk 29", z.hunk(29, 0) + "," + z.hunk(29, 1) + "," + z.hunk(29, 2) + "," + z.hunk(29, 3),
                "58,1,29,0");
    }

    /** 40 is the most: 40 pairs, with a line more of a and one of b by turns ahead of them. */
    private static void manyHunks(Check check) {
        Counted x = new Counted();
        for (int k = 0; k < 40; k++) {
            x.put(k % 2, 100 + k);
            x.put(0, k);
            x.put(1, k);
        }
        check.same("40 hunks", x.hunks(0, 1), 40);
        check.same("the last hunk", Check.asked(40, 4, x::hunk).endsWith(" 59,0,58,1"), true);
        check.same("patched", x.patch(0, 1, 0, 2), 0);
        check.lines("b came of it", x, 2, Check.read(x, 1));
    }

    /** Every two rows of up to four lines of two kinds, behind a common() of longer rows. */
    private static void allShortRows(Check check) {
        for (int a = 1; a < 32; a++) {
            for (int b = 1; b < 32; b++) {
                Counted x = new Counted();
                Check.fill(x, 0, 1, 1, 1, 1, 1, 1);
                check.same("long rows", x.common(0, 0), 6);
                Check.fill(x, 0, bits(a));
                Check.fill(x, 1, bits(b));
                List<int[]> due = PlainModel.commonOf(listed(bits(a)), listed(bits(b)));
                String got = Check.asked(x.common(0, 1), 2, x::pair);
                check.same("short rows", got, Check.asked(due.size(), 2, (k, side) -> due.get(k)[side]));
            }
        }
    }

    /** The bits below the highest one, each a line. */
    private static int[] bits(int number) {
        int[] lines = new int[31 - Integer.numberOfLeadingZeros(number)];
        for (int k = 0; k < lines.length; k++) {
            lines[k] = number >> k & 1;
        }
        return lines;
    }

    private static List<Integer> listed(int[] lines) {
        List<Integer> list = new ArrayList<>();
        for (int line : lines) {
            list.add(line);
        }
        return list;
    }

    /** pair() and hunk() tell of the latest common() and hunks(), whatever came in between. */
    private static void keptAnswers(Check check) {
        Counted x = new Counted();
        Check.fill(x, 0, 1, 2, 3, 4);
        Check.fill(x, 1, 1, 9, 3, 4);
        Check.fill(x, 2, 4, 5);
        x.common(0, 1);
        x.hunks(0, 1);
        String pairs = "0,0 2,2 3,3";
        String hunks = "1,1,1,1";
        check.same("pairs", Check.asked(3, 2, x::pair), pairs);
        check.same("hunks", Check.asked(1, 4, x::hunk), hunks);
        x.hunks(2, 0);
        check.same("pairs behind hunks()", Check.asked(3, 2, x::pair), pairs);
        x.hunks(0, 1);
        x.common(2, 0);
        check.same("hunks behind common()", Check.asked(1, 4, x::hunk), hunks);
        x.common(0, 1);
        x.merge(0, 1, 2, 3);
        x.patch(2, 0, 1, 4);
        x.commit(0);
        x.commit(2);
        Check.fill(x, 0, 7);
        x.clear(1);
        check.same("pairs kept", Check.asked(3, 2, x::pair), pairs);
        check.same("hunks kept", Check.asked(1, 4, x::hunk), hunks);
        check.refused("common", Check.NO_ARGUMENT, () -> x.common(0, 6));
        check.refused("hunks", Check.NO_ARGUMENT, () -> x.hunks(-1, 0));
        check.same("pairs behind a throw", Check.asked(3, 2, x::pair), pairs);
        check.same("hunks behind a throw", Check.asked(1, 4, x::hunk), hunks);
        check.same("fewer pairs", x.common(0, 2), 0);
        check.refused("no pair is left", Check.NO_INDEX, () -> x.pair(0, 0));
        check.same("no hunk", x.hunks(1, 1), 0);
        check.refused("no hunk is left", Check.NO_INDEX, () -> x.hunk(0, 0));
    }

    private static void wrongInputs(Check check) {
        Counted x = new Counted();
        Check.fill(x, 0, 1, 2);
        Check.fill(x, 1, 1, 3);
        x.common(0, 1);
        x.hunks(0, 1);
        for (int row : NO_ROWS) {
            check.refused("common a", Check.NO_ARGUMENT, () -> x.common(row, 0));
            check.refused("common b", Check.NO_ARGUMENT, () -> x.common(0, row));
            check.refused("hunks a", Check.NO_ARGUMENT, () -> x.hunks(row, 0));
            check.refused("hunks b", Check.NO_ARGUMENT, () -> x.hunks(0, row));
        }
        for (int k : new int[] {-1, 1, 60, 61, Integer.MIN_VALUE, Integer.MAX_VALUE}) {
            check.refused("pair k", Check.NO_INDEX, () -> x.pair(k, 0));
            check.refused("hunk k", Check.NO_INDEX, () -> x.hunk(k, 0));
        }
        for (int what : new int[] {-1, 4, Integer.MIN_VALUE, Integer.MAX_VALUE}) {
            check.refused("pair side", Check.NO_INDEX, () -> x.pair(0, what));
            check.refused("hunk what", Check.NO_INDEX, () -> x.hunk(0, what));
        }
        check.refused("pair side 2", Check.NO_INDEX, () -> x.pair(0, 2));
        check.same("pair side 1", x.pair(0, 1), 0);
        check.same("hunk what 3", x.hunk(0, 3), 1);
    }
}
