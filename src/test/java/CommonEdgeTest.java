/** The boundary cases of promises 6 to 9 and of Terms 2, each sentence with a test of its own. */
public final class CommonEdgeTest {
    public static void main(String[] args) {
        Check check = new Check();
        commonNoSuchRow(check);
        commonOfEmptyRows(check);
        commonOfFullRows(check);
        commonOfShorterRowsLater(check);
        commonAsManyAsThereCanBe(check);
        commonFirstInA(check);
        commonFirstInB(check);
        pairNoSuchPair(check);
        pairNoSuchSide(check);
        pairOfTheLatest(check);
        hunksNoSuchRow(check);
        hunksIfOneIsNotEmpty(check);
        hunksAheadAndBehind(check);
        hunksMostAndFewest(check);
        hunkNoSuchHunk(check);
        hunkNoSuchWhat(check);
        hunkOfTheLatest(check);
        check.finish();
    }

    private static int[] row(int... lines) {
        return lines;
    }

    private static Counted filled(int[] a, int[] b) {
        Counted x = new Counted();
        Check.fill(x, 0, a);
        Check.fill(x, 5, b);
        return x;
    }

    private static String pairs(int[] a, int[] b) {
        Counted x = filled(a, b);
        return Check.asked(x.common(0, 5), 2, x::pair);
    }

    private static String hunks(int[] a, int[] b) {
        Counted x = filled(a, b);
        return Check.asked(x.hunks(0, 5), 4, x::hunk);
    }

    /** common: "IllegalArgumentException if there is no such row". */
    private static void commonNoSuchRow(Check check) {
        for (int no : Pasts.NO_ROWS) {
            check.refusedUnchanged("common, a", Check.NO_ARGUMENT, Pasts::ordinary, x -> x.common(no, 0));
            check.refusedUnchanged("common, b", Check.NO_ARGUMENT, Pasts::ordinary, x -> x.common(5, no));
            check.refusedUnchanged("common, both", Check.NO_ARGUMENT, Pasts::ordinary, x -> x.common(no, no));
            check.refusedUnchanged("common, new", Check.NO_ARGUMENT, Pasts::none, x -> x.common(0, no));
        }
        Counted x = new Counted();
        Check.fill(x, 0, 1);
        Check.fill(x, 5, 1);
        check.same("the first and the last row", x.common(0, 5), 1);
        check.same("the last and the first row", x.common(5, 0), 1);
    }

    private static void commonOfEmptyRows(Check check) {
        check.same("both empty", pairs(row(), row()), "");
        check.same("a empty", pairs(row(), row(1)), "");
        check.same("b empty", pairs(row(1), row()), "");
        check.same("one line each", pairs(row(1), row(1)), "0,0");
        check.same("one line each, not equal", pairs(row(1), row(2)), "");
        Counted x = new Counted();
        check.same("an empty row with itself", x.common(3, 3), 0);
        check.refused("it has no pair", Check.NO_INDEX, () -> x.pair(0, 0));
    }

    private static void commonOfFullRows(Check check) {
        Counted x = filled(Check.rising(0, 60), Check.rising(0, 60));
        check.same("all 60", x.common(0, 5), 60);
        check.same("the first pair", x.pair(0, 0) + "," + x.pair(0, 1), "0,0");
        check.same("the last pair", x.pair(59, 0) + "," + x.pair(59, 1), "59,59");
        check.refused("pair 60", Check.NO_INDEX, () -> x.pair(60, 0));
        check.same("with itself", x.common(0, 0), 60);
        check.same("full, nothing alike", filled(Check.rising(0, 60), Check.rising(60, 60)).common(0, 5), 0);
        check.same("last with first", pairs(Check.rising(0, 60), Check.rising(59, 60)), "59,0");
        check.same("first with last", pairs(Check.rising(59, 60), Check.rising(0, 60)), "0,59");
        check.same("full of one line", filled(new int[60], new int[60]).common(0, 5), 60);
        check.same("full and a row of one", pairs(new int[60], row(0)), "0,0");
        check.same("a row of one and full", pairs(row(0), new int[60]), "0,0");
        check.same("full and 59", filled(new int[60], new int[59]).common(0, 5), 59);
    }

    /** Of what longer rows had in common before, nothing is left. */
    private static void commonOfShorterRowsLater(Check check) {
        for (int length = 1; length <= 12; length++) {
            Counted x = filled(new int[length], new int[length]);
            check.same("before", x.common(0, 5), length);
            Check.fill(x, 0, 3, 1, 2, 1);
            Check.fill(x, 5, 1, 2, 3);
            check.same("later", Check.asked(x.common(0, 5), 2, x::pair), "1,0 2,1");
            check.same("the other way", Check.asked(x.common(5, 0), 2, x::pair), "0,1 1,2");
            Check.fill(x, 0, 2, 3, 1);
            Check.fill(x, 5, 1, 2);
            check.same("shorter still", Check.asked(x.common(0, 5), 2, x::pair), "0,1");
            check.same("the other way", Check.asked(x.common(5, 0), 2, x::pair), "0,2");
            x.clear(5);
            check.same("empty", x.common(0, 5) + x.common(5, 0), 0);
        }
    }

    /** "as many as there can be": also where that leaves a's first line out. */
    private static void commonAsManyAsThereCanBe(Check check) {
        check.same("two, not a's first", pairs(row(3, 1, 2), row(1, 2, 3)), "1,0 2,1");
        check.same("one and one: a's first", pairs(row(3, 1), row(1, 3)), "0,1");
        check.same("the long way", pairs(row(9, 1, 2, 3, 4), row(1, 2, 3, 4, 9)), "1,0 2,1 3,2 4,3");
        check.same("places rise", pairs(row(1, 2, 3), row(3, 2, 1)), "0,2");
    }

    /** "of several such ones that whose places in a are first (the first ones compared, then the second ..)". */
    private static void commonFirstInA(Check check) {
        check.same("the first of equal lines", pairs(row(7, 7), row(7)), "0,0");
        check.same("the first place counts first", pairs(row(1, 2, 3, 1), row(3, 1, 2)), "0,1 1,2");
        check.same("then the second one", pairs(row(1, 2, 2, 3), row(1, 2, 3)), "0,0 1,1 3,2");
        check.same("then the last one", pairs(row(1, 2, 3, 3), row(1, 2, 3)), "0,0 1,1 2,2");
        check.same("a's places ahead of b's", pairs(row(1, 2), row(2, 1)), "0,1");
    }

    /** "of these that whose places in b are". */
    private static void commonFirstInB(Check check) {
        check.same("the first of equal lines", pairs(row(7), row(7, 7)), "0,0");
        check.same("the second pair too", pairs(row(1, 2), row(1, 1, 2, 2)), "0,0 1,2");
        check.same("the last pair too", pairs(row(7, 7), row(7, 7, 7)), "0,0 1,1");
    }

    /** pair: "IndexOutOfBoundsException if there is no such pair". */
    private static void pairNoSuchPair(Check check) {
        for (int side = 0; side < 2; side++) {
            int asked = side;
            for (int k : Pasts.NO_INDICES) {
                check.refusedUnchanged("pair", Check.NO_INDEX, Pasts::ordinary, x -> x.pair(k, asked));
                check.refusedUnchanged("new pair", Check.NO_INDEX, Pasts::none, x -> x.pair(k, asked));
            }
            check.refusedUnchanged("one too far", Check.NO_INDEX, Pasts::ordinary, x -> x.pair(3, asked));
            check.refusedUnchanged("two too far", Check.NO_INDEX, Pasts::ordinary, x -> x.pair(4, asked));
        }
        Counted x = new Counted();
        Pasts.ordinary(x);
        check.same("the last pair", x.pair(2, 0) + "," + x.pair(2, 1), "3,3");
        check.same("the first pair", x.pair(0, 0) + "," + x.pair(0, 1), "0,0");
    }

    /** pair: "or side". */
    private static void pairNoSuchSide(Check check) {
        for (int side : new int[] {Pasts.LEAST, Pasts.LEAST + 1, -2, -1, 2, 3, 1 << 30, Pasts.MOST}) {
            for (int k = 0; k < 3; k++) {
                int asked = k;
                check.refusedUnchanged("side", Check.NO_INDEX, Pasts::ordinary, x -> x.pair(asked, side));
            }
            check.refusedUnchanged("both wrong", Check.NO_INDEX, Pasts::ordinary, x -> x.pair(3, side));
            check.refusedUnchanged("both wrong", Check.NO_INDEX, Pasts::ordinary, x -> x.pair(-1, side));
        }
        check.same("the two sides", pairs(row(1, 2), row(3, 2)), "1,1");
        check.same("side 0 is a's", pairs(row(9, 9, 2), row(2)), "2,0");
        check.same("side 1 is b's", pairs(row(2), row(9, 9, 2)), "0,2");
    }

    /** "Of pair k of the latest common()": fewer pairs leave none of the earlier ones. */
    private static void pairOfTheLatest(Check check) {
        Counted x = filled(row(1, 2, 3), row(1, 2, 3));
        Check.fill(x, 1, 3);
        check.same("three", x.common(0, 5), 3);
        check.same("one", x.common(0, 1), 1);
        check.same("the pair", x.pair(0, 0) + "," + x.pair(0, 1), "2,0");
        check.refused("an earlier one's", Check.NO_INDEX, () -> x.pair(1, 0));
        check.same("none", x.common(0, 2), 0);
        check.refused("no pair", Check.NO_INDEX, () -> x.pair(0, 0));
    }

    /** hunks: "IllegalArgumentException if there is no such row". */
    private static void hunksNoSuchRow(Check check) {
        for (int no : Pasts.NO_ROWS) {
            check.refusedUnchanged("hunks, a", Check.NO_ARGUMENT, Pasts::ordinary, x -> x.hunks(no, 0));
            check.refusedUnchanged("hunks, b", Check.NO_ARGUMENT, Pasts::ordinary, x -> x.hunks(5, no));
            check.refusedUnchanged("hunks, both", Check.NO_ARGUMENT, Pasts::ordinary, x -> x.hunks(no, no));
            check.refusedUnchanged("hunks, new", Check.NO_ARGUMENT, Pasts::none, x -> x.hunks(0, no));
        }
        Counted x = new Counted();
        Check.fill(x, 0, 1);
        Check.fill(x, 5, 2);
        check.same("the first and the last row", x.hunks(0, 5), 1);
        check.same("the last and the first row", x.hunks(5, 0), 1);
    }

    /** "if one of them at least isn't empty". */
    private static void hunksIfOneIsNotEmpty(Check check) {
        check.same("both empty", hunks(row(), row()), "");
        check.same("a's alone", hunks(row(1), row()), "0,1,0,0");
        check.same("b's alone", hunks(row(), row(1)), "0,0,0,1");
        check.same("both not", hunks(row(1), row(2)), "0,1,0,1");
        check.same("pairs side by side have none between", hunks(row(1, 2), row(1, 2)), "");
        check.same("between, a's alone", hunks(row(1, 9, 2), row(1, 2)), "1,1,1,0");
        check.same("between, b's alone", hunks(row(1, 2), row(1, 9, 2)), "1,0,1,1");
        check.same("side by side in a, not in b", hunks(row(1, 2, 3), row(1, 2, 9, 3)), "2,0,2,1");
        Counted x = filled(Check.rising(0, 60), row());
        check.same("a row with itself", x.hunks(0, 0), 0);
        check.same("an empty row with itself", x.hunks(5, 5), 0);
    }

    /** "(also ahead of the first and behind the last one)". */
    private static void hunksAheadAndBehind(Check check) {
        check.same("ahead, a's", hunks(row(9, 1), row(1)), "0,1,0,0");
        check.same("ahead, b's", hunks(row(1), row(9, 1)), "0,0,0,1");
        check.same("ahead, both", hunks(row(8, 8, 1), row(9, 1)), "0,2,0,1");
        check.same("behind, a's", hunks(row(1, 9), row(1)), "1,1,1,0");
        check.same("behind, b's", hunks(row(1), row(1, 9)), "1,0,1,1");
        check.same("behind, both", hunks(row(1, 8), row(1, 9, 9)), "1,1,1,2");
        check.same("ahead and behind", hunks(row(8, 1, 8), row(9, 1, 9)), "0,1,0,1 2,1,2,1");
        check.same("no pair at all: one hunk", hunks(row(1, 2, 3), row(4, 5)), "0,3,0,2");
    }

    private static void hunksMostAndFewest(Check check) {
        check.same("full and empty", hunks(Check.rising(0, 60), row()), "0,60,0,0");
        check.same("empty and full", hunks(row(), Check.rising(0, 60)), "0,0,0,60");
        check.same("full, nothing alike", hunks(Check.rising(0, 60), Check.rising(60, 60)), "0,60,0,60");
        check.same("full, alike", hunks(Check.rising(0, 60), Check.rising(0, 60)), "");
        check.same("full and 59, the last gone", hunks(Check.rising(0, 60), Check.rising(0, 59)), "59,1,59,0");
        check.same("full and 59, the first gone", hunks(Check.rising(0, 60), Check.rising(1, 59)), "0,1,0,0");
        check.same("a pair of the last ones", hunks(Check.rising(0, 60), row(59)), "0,59,0,0");
        Counted x = fortyHunks();
        check.same("40 hunks", x.hunks(0, 5), 40);
        check.same("the first", x.hunk(0, 0) + "," + x.hunk(0, 1) + "," + x.hunk(0, 2) + "," + x.hunk(0, 3), "0,1,0,0");
        check.same("the last", x.hunk(39, 0) + "," + x.hunk(39, 1) + "," + x.hunk(39, 2) + "," + x.hunk(39, 3),
                "59,0,58,1");
        check.refused("hunk 40", Check.NO_INDEX, () -> x.hunk(40, 0));
    }

    /** The most that two rows can have: a line of a alone and one of b alone by turns ahead of 40 pairs. */
    private static Counted fortyHunks() {
        Counted x = new Counted();
        for (int k = 0; k < 40; k++) {
            x.put(k % 2 == 0 ? 0 : 5, 100 + k);
            x.put(0, k);
            x.put(5, k);
        }
        return x;
    }

    /** hunk: "IndexOutOfBoundsException if there is no such hunk". */
    private static void hunkNoSuchHunk(Check check) {
        for (int what = 0; what < 4; what++) {
            int asked = what;
            for (int k : Pasts.NO_INDICES) {
                check.refusedUnchanged("hunk", Check.NO_INDEX, Pasts::ordinary, x -> x.hunk(k, asked));
                check.refusedUnchanged("new hunk", Check.NO_INDEX, Pasts::none, x -> x.hunk(k, asked));
            }
            check.refusedUnchanged("one too far", Check.NO_INDEX, Pasts::ordinary, x -> x.hunk(2, asked));
            check.refusedUnchanged("two too far", Check.NO_INDEX, Pasts::ordinary, x -> x.hunk(3, asked));
        }
        Counted x = new Counted();
        Pasts.ordinary(x);
        check.same("the first and the last", Check.asked(2, 4, x::hunk), "1,1,1,2 3,1,4,1");
    }

    /** hunk: "or what". */
    private static void hunkNoSuchWhat(Check check) {
        for (int what : new int[] {Pasts.LEAST, Pasts.LEAST + 1, -4, -2, -1, 4, 5, 1 << 30, Pasts.MOST}) {
            for (int k = 0; k < 2; k++) {
                int asked = k;
                check.refusedUnchanged("what", Check.NO_INDEX, Pasts::ordinary, x -> x.hunk(asked, what));
            }
            check.refusedUnchanged("both wrong", Check.NO_INDEX, Pasts::ordinary, x -> x.hunk(2, what));
            check.refusedUnchanged("both wrong", Check.NO_INDEX, Pasts::ordinary, x -> x.hunk(-1, what));
        }
        check.same("the four", hunks(row(1, 2, 3, 8, 8), row(1, 3, 9, 9, 9)), "1,1,1,0 3,2,2,3");
    }

    /** "Of hunk k of the latest hunks()": fewer hunks leave none of the earlier ones. */
    private static void hunkOfTheLatest(Check check) {
        Counted x = filled(row(8, 1, 8), row(9, 1, 9));
        check.same("two", x.hunks(0, 5), 2);
        check.same("one", x.hunks(0, 1), 1);
        check.same("the hunk", Check.asked(1, 4, x::hunk), "0,3,0,0");
        check.refused("an earlier one's", Check.NO_INDEX, () -> x.hunk(1, 0));
        check.same("none", x.hunks(0, 0), 0);
        check.refused("no hunk", Check.NO_INDEX, () -> x.hunk(0, 0));
    }
}
