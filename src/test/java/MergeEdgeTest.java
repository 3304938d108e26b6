/** The boundary cases of promises 10 and 11 and of Terms 3, each sentence with a test of its own. */
public final class MergeEdgeTest {
    public static void main(String[] args) {
        Check check = new Check();
        mergeNoSuchRow(check);
        mergeIntoOneOfThem(check);
        mergeSixtyLines(check);
        mergeMoreThanSixtyOnTheWay(check);
        mergeEmptyAndFull(check);
        mergeAnchorsAtTheEnds(check);
        mergeEmptyParts(check);
        conflictNoSuchConflict(check);
        conflictNoSuchWhat(check);
        conflictOfTheLatestThatDidNotThrow(check);
        conflictAtTheEnds(check);
        conflictsThirty(check);
        check.finish();
    }

    private static int[] row(int... lines) {
        return lines;
    }

    private static Counted filled(int[] base, int[] left, int[] right) {
        Counted x = new Counted();
        fill(x, base, left, right);
        return x;
    }

    private static void fill(Face x, int[] base, int[] left, int[] right) {
        Check.fill(x, 0, base);
        Check.fill(x, 1, left);
        Check.fill(x, 2, right);
    }

    private static void merged(Check check, Counted x, String conflicts, int... lines) {
        check.same("conflicts", Check.asked(x.merge(0, 1, 2, 3), 3, x::conflict), conflicts);
        check.lines("outcome", x, 3, lines);
    }

    private static int[] joined(int[]... parts) {
        int length = 0;
        for (int[] part : parts) {
            length += part.length;
        }
        int[] all = new int[length];
        int end = 0;
        for (int[] part : parts) {
            System.arraycopy(part, 0, all, end, part.length);
            end += part.length;
        }
        return all;
    }

    /** merge: "IllegalArgumentException if there is no such row". */
    private static void mergeNoSuchRow(Check check) {
        for (int no : Pasts.NO_ROWS) {
            check.refusedUnchanged("base", Check.NO_ARGUMENT, Pasts::ordinary, x -> x.merge(no, 1, 2, 3));
            check.refusedUnchanged("left", Check.NO_ARGUMENT, Pasts::ordinary, x -> x.merge(0, no, 2, 3));
            check.refusedUnchanged("right", Check.NO_ARGUMENT, Pasts::ordinary, x -> x.merge(0, 1, no, 3));
            check.refusedUnchanged("to", Check.NO_ARGUMENT, Pasts::ordinary, x -> x.merge(0, 1, 0, no));
            check.refusedUnchanged("all", Check.NO_ARGUMENT, Pasts::ordinary, x -> x.merge(no, no, no, no));
            check.refusedUnchanged("new", Check.NO_ARGUMENT, Pasts::none, x -> x.merge(0, 1, 2, no));
            check.refusedUnchanged("too long as well", Check.NO_ARGUMENT, MergeEdgeTest::sixtyOne,
                    x -> x.merge(0, 1, 2, no));
        }
        Counted x = new Counted();
        Check.fill(x, 5, 1, 2);
        check.same("the last row", x.merge(5, 5, 5, 0), 0);
        check.lines("into the first row", x, 0, 1, 2);
        check.same("the first row", x.merge(1, 0, 1, 5), 0);
        check.lines("into the last row", x, 5, 1, 2);
    }

    /** "into one (which may be one of them)". */
    private static void mergeIntoOneOfThem(Check check) {
        int[] due = row(1, 8, 9, 3, 4);
        for (int to = 0; to < 6; to++) {
            Counted x = filled(row(1, 2, 3), row(1, 8, 3), row(1, 9, 3, 4));
            Check.fill(x, 4, 7, 7, 7, 7, 7, 7);
            check.same("conflicts", Check.asked(x.merge(0, 1, 2, to), 3, x::conflict), "1,1,1");
            check.lines("base", x, 0, to == 0 ? due : row(1, 2, 3));
            check.lines("left", x, 1, to == 1 ? due : row(1, 8, 3));
            check.lines("right", x, 2, to == 2 ? due : row(1, 9, 3, 4));
            check.lines("row 3", x, 3, to == 3 ? due : row());
            check.lines("row 4", x, 4, to == 4 ? due : row(7, 7, 7, 7, 7, 7));
            check.lines("row 5", x, 5, to == 5 ? due : row());
        }
        Counted x = filled(row(1, 2, 3), row(1, 2), row());
        check.same("all of them one", x.merge(0, 0, 0, 0), 0);
        check.lines("as it was", x, 0, 1, 2, 3);
        check.same("base and left one, into right", x.merge(0, 0, 1, 1), 0);
        check.lines("right's", x, 1, 1, 2);
        check.same("left and right one, into base", x.merge(0, 1, 1, 0), 0);
        check.lines("left's", x, 0, 1, 2);
        check.same("an empty row takes all out", x.merge(0, 2, 0, 0), 0);
        check.lines("nothing is left", x, 0);
    }

    private static void sixtyOne(Face x) {
        fill(x, row(), Check.rising(0, 30), Check.rising(100, 30));
        x.merge(0, 1, 2, 3);
        x.put(2, 500);
        x.commit(1);
    }

    /** merge: "UnsupportedOperationException if it would have more than 60 lines". */
    private static void mergeSixtyLines(Check check) {
        merged(check, filled(row(), Check.rising(0, 30), Check.rising(100, 29)), "0,30,29",
                joined(Check.rising(0, 30), Check.rising(100, 29)));
        merged(check, filled(row(), Check.rising(0, 30), Check.rising(100, 30)), "0,30,30",
                joined(Check.rising(0, 30), Check.rising(100, 30)));
        for (int to = 0; to < 6; to++) {
            int asked = to;
            check.refusedUnchanged("61 lines", Check.NO_ROOM, MergeEdgeTest::sixtyOne, x -> x.merge(0, 1, 2, asked));
        }
        check.refusedUnchanged("61 lines, the other way", Check.NO_ROOM, MergeEdgeTest::sixtyOne,
                x -> x.merge(0, 2, 1, 4));
        // Without a conflict: each side puts lines in at its own end.
        int[] base = Check.rising(0, 20);
        merged(check, filled(base, joined(Check.rising(100, 20), base), joined(base, Check.rising(200, 20))), "",
                joined(Check.rising(100, 20), base, Check.rising(200, 20)));
        check.refusedUnchanged("61 lines without a conflict", Check.NO_ROOM,
                x -> fill(x, base, joined(Check.rising(100, 21), base), joined(base, Check.rising(200, 20))),
                x -> x.merge(0, 1, 2, 3));
        // The last line makes it: one anchor more than 59 lines.
        merged(check, filled(row(7), joined(Check.rising(100, 59), row(7)), row(7)), "",
                joined(Check.rising(100, 59), row(7)));
        check.refusedUnchanged("61 lines by the anchor", Check.NO_ROOM,
                x -> fill(x, row(7), joined(Check.rising(100, 59), row(7)), row(200, 7)), x -> x.merge(0, 1, 2, 3));
        Counted most = filled(row(), Check.rising(0, 60), Check.rising(100, 60));
        check.refused("120 lines", Check.NO_ROOM, () -> most.merge(0, 1, 2, 2));
        check.lines("right as it was", most, 2, Check.rising(100, 60));
    }

    /** What is taken out counts as well as what is put in: 60 lines come of it. */
    private static void mergeMoreThanSixtyOnTheWay(Check check) {
        int[] base = Check.rising(0, 60);
        merged(check, filled(base, joined(row(100), Check.rising(1, 59)), Check.rising(0, 59)), "",
                joined(row(100), Check.rising(1, 58)));
        Counted x = filled(Check.rising(0, 59), joined(row(100), Check.rising(0, 59)), Check.rising(0, 58));
        merged(check, x, "", joined(row(100), Check.rising(0, 58)));
        Check.fill(x, 2, joined(Check.rising(0, 58), row(101)));
        merged(check, x, "", joined(row(100), Check.rising(0, 58), row(101)));
        Check.fill(x, 2, joined(Check.rising(0, 58), row(101, 102)));
        check.refused("then 61", Check.NO_ROOM, () -> x.merge(0, 1, 2, 3));
    }

    private static void mergeEmptyAndFull(Check check) {
        int[] full = Check.rising(0, 60);
        merged(check, filled(row(), row(), row()), "");
        merged(check, filled(full, full, full), "", full);
        merged(check, filled(row(), full, row()), "", full);
        merged(check, filled(row(), row(), full), "", full);
        merged(check, filled(row(), full, full), "", full);
        merged(check, filled(full, row(), row()), "");
        merged(check, filled(full, row(), full), "");
        merged(check, filled(full, full, row()), "");
        merged(check, filled(full, Check.rising(100, 60), row()), "0,60,0", Check.rising(100, 60));
        merged(check, filled(full, row(), Check.rising(100, 60)), "0,0,60", Check.rising(100, 60));
    }

    /** "Ahead of, between and behind anchors lie a part of each of the three rows". */
    private static void mergeAnchorsAtTheEnds(Check check) {
        merged(check, filled(row(5), row(5), row(5)), "", 5);
        merged(check, filled(row(5), row(1, 5), row(5, 2)), "", 1, 5, 2);
        merged(check, filled(row(5), row(5, 1), row(2, 5)), "", 2, 5, 1);
        merged(check, filled(row(5), row(1, 5), row(2, 5)), "0,1,1", 1, 2, 5);
        merged(check, filled(row(5), row(5, 1), row(5, 2)), "1,1,1", 5, 1, 2);
        merged(check, filled(row(5, 6), row(5, 1, 6), row(5, 2, 6)), "1,1,1", 5, 1, 2, 6);
        // A place with one pair alone is no anchor.
        merged(check, filled(row(5), row(5), row(6)), "", 6);
        merged(check, filled(row(5), row(6), row(5)), "", 6);
        merged(check, filled(row(5), row(6), row(7)), "0,1,1", 6, 7);
    }

    /** "left's, if it is right's or if right's is the base's; else right's, if left's is the base's". */
    private static void mergeEmptyParts(Check check) {
        merged(check, filled(row(1, 2, 3), row(1, 3), row(1, 3)), "", 1, 3);
        merged(check, filled(row(1, 2, 3), row(1, 3), row(1, 2, 3)), "", 1, 3);
        merged(check, filled(row(1, 2, 3), row(1, 2, 3), row(1, 3)), "", 1, 3);
        merged(check, filled(row(1, 3), row(1, 2, 3), row(1, 2, 3)), "", 1, 2, 3);
        merged(check, filled(row(1, 3), row(1, 2, 3), row(1, 3)), "", 1, 2, 3);
        merged(check, filled(row(1, 3), row(1, 3), row(1, 2, 3)), "", 1, 2, 3);
        merged(check, filled(row(1, 2, 3), row(1, 3), row(1, 4, 3)), "1,0,1", 1, 4, 3);
        merged(check, filled(row(1, 2, 3), row(1, 4, 3), row(1, 3)), "1,1,0", 1, 4, 3);
        // One line more alone makes parts not alike.
        merged(check, filled(row(1, 3), row(1, 2, 3), row(1, 2, 2, 3)), "1,1,2", 1, 2, 2, 2, 3);
        merged(check, filled(row(1, 3), row(1, 2, 2, 3), row(1, 2, 3)), "1,2,1", 1, 2, 2, 2, 3);
    }

    /** conflict: "IndexOutOfBoundsException if there is no such conflict". */
    private static void conflictNoSuchConflict(Check check) {
        for (int what = 0; what < 3; what++) {
            int asked = what;
            for (int k : Pasts.NO_INDICES) {
                check.refusedUnchanged("conflict", Check.NO_INDEX, Pasts::ordinary, x -> x.conflict(k, asked));
                check.refusedUnchanged("new conflict", Check.NO_INDEX, Pasts::none, x -> x.conflict(k, asked));
            }
            check.refusedUnchanged("one too far", Check.NO_INDEX, Pasts::ordinary, x -> x.conflict(1, asked));
            check.refusedUnchanged("two too far", Check.NO_INDEX, Pasts::ordinary, x -> x.conflict(2, asked));
        }
        Counted x = new Counted();
        Pasts.ordinary(x);
        check.same("the only one", Check.asked(1, 3, x::conflict), "1,1,2");
    }

    /** conflict: "or what". */
    private static void conflictNoSuchWhat(Check check) {
        for (int what : new int[] {Pasts.LEAST, Pasts.LEAST + 1, -3, -2, -1, 3, 4, 1 << 30, Pasts.MOST}) {
            check.refusedUnchanged("what", Check.NO_INDEX, Pasts::ordinary, x -> x.conflict(0, what));
            check.refusedUnchanged("both wrong", Check.NO_INDEX, Pasts::ordinary, x -> x.conflict(1, what));
            check.refusedUnchanged("both wrong", Check.NO_INDEX, Pasts::ordinary, x -> x.conflict(-1, what));
        }
        Counted x = filled(row(5, 6), row(5, 1, 1, 6), row(5, 2, 2, 2, 6));
        x.merge(0, 1, 2, 3);
        check.same("the three", x.conflict(0, 0) + "," + x.conflict(0, 1) + "," + x.conflict(0, 2), "1,2,3");
    }

    /** "Of conflict k of the latest merge() that did not throw". */
    private static void conflictOfTheLatestThatDidNotThrow(Check check) {
        Counted x = filled(row(5), row(1, 5, 3), row(2, 5, 4, 4));
        Check.fill(x, 4, Check.rising(10, 60));
        check.same("two", x.merge(0, 1, 2, 3), 2);
        for (int round = 0; round < 3; round++) {
            check.refused("too long, with other conflicts", Check.NO_ROOM, () -> x.merge(0, 4, 2, 3));
            check.refused("no such row", Check.NO_ARGUMENT, () -> x.merge(0, 1, 0, 6));
            check.same("as they were", Check.asked(2, 3, x::conflict), "0,1,1 3,1,2");
            check.refused("no third one", Check.NO_INDEX, () -> x.conflict(2, 0));
        }
        check.same("one", x.merge(5, 1, 2, 3), 1);
        check.same("the latest", Check.asked(1, 3, x::conflict), "0,3,4");
        check.refused("an earlier one's", Check.NO_INDEX, () -> x.conflict(1, 0));
        check.same("none", x.merge(0, 0, 0, 3), 0);
        check.refused("no conflict", Check.NO_INDEX, () -> x.conflict(0, 0));
        check.refused("too long", Check.NO_ROOM, () -> x.merge(0, 4, 2, 3));
        check.refused("still no conflict", Check.NO_INDEX, () -> x.conflict(0, 0));
    }

    private static void conflictAtTheEnds(Check check) {
        int[] base = Check.rising(0, 60);
        int[] short59 = Check.rising(0, 59);
        merged(check, filled(base, joined(short59, row(100)), short59), "59,1,0", joined(short59, row(100)));
        merged(check, filled(base, short59, joined(short59, row(100))), "59,0,1", joined(short59, row(100)));
        check.refusedUnchanged("line 61 by the last conflict", Check.NO_ROOM,
                x -> fill(x, base, joined(short59, row(100)), joined(short59, row(101))), x -> x.merge(0, 1, 2, 3));
        merged(check, filled(base, joined(row(100), Check.rising(1, 59)), Check.rising(1, 59)), "0,1,0",
                joined(row(100), Check.rising(1, 59)));
        merged(check, filled(base, Check.rising(100, 30), Check.rising(200, 30)), "0,30,30",
                joined(Check.rising(100, 30), Check.rising(200, 30)));
    }

    /** No row of 60 lines can come with more: 30 conflicts and the anchors between them. */
    private static void conflictsThirty(Check check) {
        Counted x = new Counted();
        for (int k = 0; k < 30; k++) {
            x.put(0, 200 + k);
            x.put(2, 300 + k);
            for (int row = 0; row < 3; row++) {
                x.put(row, k);
            }
        }
        check.same("30 conflicts", x.merge(0, 1, 2, 3), 30);
        check.same("60 lines", x.size(3), 60);
        for (int k = 0; k < 30; k++) {
            check.same("conflict", x.conflict(k, 0) + "," + x.conflict(k, 1) + "," + x.conflict(k, 2), 2 * k + ",0,1");
        }
        check.refused("conflict 30", Check.NO_INDEX, () -> x.conflict(30, 0));
        x.put(1, 400);
        check.refused("61 lines", Check.NO_ROOM, () -> x.merge(0, 1, 2, 3));
        check.same("still there", x.conflict(29, 0), 58);
    }
}
