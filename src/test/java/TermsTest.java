/** The sentences of "Terms" that the other tests do not quote, each with a test of its own. */
public final class TermsTest {
    /** Rows with lines that come again and again, so that there are many ways to pair them. */
    private static final int[][] TANGLED = {
        {1, 2, 3, 1, 2, 3, 1, 2, 3, 1, 2, 3},
        {3, 2, 1, 3, 2, 1, 3, 2, 1},
        {1, 1, 2, 2, 3, 3, 1, 1, 2, 2, 3, 3},
        {2, 4, 2, 5, 2, 6, 1, 3},
        {7, 7, 7, 1, 7, 7, 2, 7},
        {},
    };

    public static void main(String[] args) {
        Check check = new Check();
        partsFollowOneAnother(check);
        pairsHaveEqualLines(check);
        placesRise(check);
        theFirstOnesCompared(check);
        hunksLieBetweenPairs(check);
        hunksTellWhereAndHowMany(check);
        anchorsAreInPairsOfBoth(check);
        partByPart(check);
        leftsIfItIsRights(check);
        leftsIfRightsIsTheBases(check);
        rightsIfLeftsIsTheBases(check);
        bothElse(check);
        alikeIfTheirLinesAre(check);
        eachAnchorsLineComes(check);
        eachHunkInOrder(check);
        partComesInPlace(check);
        whatMakesBOfA(check);
        versionsAreCopies(check);
        originOfTheOtherLine(check);
        check.finish();
    }

    private static String pairs(Counted x, int a, int b) {
        return Check.asked(x.common(a, b), 2, x::pair);
    }

    private static String hunks(int[] a, int[] b) {
        Counted x = Check.filled(a, b);
        return Check.asked(x.hunks(0, 1), 4, x::hunk);
    }

    private static void merged(Check check, int[][] rows, String conflicts, int... lines) {
        Counted x = Check.filled(rows);
        check.same("conflicts", Check.asked(x.merge(0, 1, 2, 3), 3, x::conflict), conflicts);
        check.lines("merged", x, 3, lines);
    }

    private static void patched(Check check, int[][] rows, int rejected, int... lines) {
        Counted x = Check.filled(rows);
        check.same("rejected", x.patch(0, 1, 2, 3), rejected);
        check.lines("patched", x, 3, lines);
    }

    private static int[] row(int... lines) {
        return lines;
    }

    private static int[][] rows(int[]... rows) {
        return rows;
    }

    /** "A PART of a row are lines that follow one another." */
    private static void partsFollowOneAnother(Check check) {
        check.same("side by side: one part", hunks(row(1, 2, 3, 4), row(1, 8, 9, 4)), "1,2,1,2");
        check.same("a pair between: two", hunks(row(1, 2, 3, 4, 5), row(1, 8, 3, 9, 5)), "1,1,1,1 3,1,3,1");
        merged(check, rows(row(1, 2, 3, 4), row(1, 8, 3, 4), row(1, 2, 9, 4)), "1,2,2", 1, 8, 3, 2, 9, 4);
        merged(check, rows(row(1, 2, 3, 4, 5), row(1, 8, 3, 4, 5), row(1, 2, 3, 9, 5)), "", 1, 8, 3, 9, 5);
    }

    /** "PAIRS of a place in a and one in b with lines that are equal". */
    private static void pairsHaveEqualLines(Check check) {
        Counted x = Check.filled(TANGLED);
        for (int a = 0; a < 6; a++) {
            for (int b = 0; b < 6; b += 2) {
                int count = x.common(a, b);
                for (int k = 0; k < count; k++) {
                    check.same("lines of a pair", TANGLED[a][x.pair(k, 0)], TANGLED[b][x.pair(k, 1)]);
                }
            }
        }
        check.same("no equal lines, no pair", pairs(Check.filled(row(1, 2, 3), row(-1, -2, -3)), 0, 1), "");
    }

    /** "both places rising from pair to pair". */
    private static void placesRise(Check check) {
        Counted x = Check.filled(TANGLED);
        for (int a = 0; a < 6; a += 2) {
            for (int b = 0; b < 6; b++) {
                int count = x.common(a, b);
                for (int k = 1; k < count; k++) {
                    check.same("a's place rises", x.pair(k, 0) > x.pair(k - 1, 0), true);
                    check.same("b's place rises", x.pair(k, 1) > x.pair(k - 1, 1), true);
                }
            }
        }
        check.same("crossed ones are no two pairs", pairs(Check.filled(row(1, 2), row(2, 1)), 0, 1), "0,1");
        check.same("a line is in one pair alone", pairs(Check.filled(row(5), row(5, 5)), 0, 1), "0,0");
    }

    /** "(the first ones compared, then the second ones, ..)": all of a's ahead of all of b's. */
    private static void theFirstOnesCompared(Check check) {
        // Lines 1, 2 or 1, 1: of a the places 0, 1 or 0, 2, and of b 0, 2 or 0, 1.
        check.same("a's second place ahead of b's first", pairs(Check.filled(row(1, 2, 1), row(1, 1, 2)), 0, 1),
                "0,0 1,2");
        check.same("b's first pair late", pairs(Check.filled(row(1, 2, 3, 4), row(3, 4, 1, 2)), 0, 1), "0,2 1,3");
        // The first places are the same; the second ones decide, not the third ones.
        check.same("the second ones", pairs(Check.filled(row(1, 2, 3, 4, 5), row(1, 4, 5, 2, 3)), 0, 1),
                "0,0 1,3 2,4");
    }

    /** "the parts of a and b between two pairs that follow one another in both". */
    private static void hunksLieBetweenPairs(Check check) {
        for (int[] a : TANGLED) {
            for (int[] b : TANGLED) {
                Counted x = Check.filled(a, b);
                check.same("pairs and hunks in turn", coveredBy(x, x.common(0, 1), x.hunks(0, 1)),
                        a.length + "," + b.length);
            }
        }
        check.same("between", hunks(row(1, 2, 3), row(1, 8, 9, 3)), "1,1,1,2");
    }

    /** Where one comes who steps over each hunk and each pair, whichever begins there. */
    private static String coveredBy(Counted x, int pairs, int hunks) {
        int a = 0;
        int b = 0;
        int pair = 0;
        int hunk = 0;
        while (pair < pairs || hunk < hunks) {
            if (hunk < hunks && x.hunk(hunk, 0) == a && x.hunk(hunk, 2) == b) {
                a += x.hunk(hunk, 1);
                b += x.hunk(hunk, 3);
                hunk++;
            } else if (pair < pairs && x.pair(pair, 0) == a && x.pair(pair, 1) == b) {
                a++;
                b++;
                pair++;
            } else {
                return "neither pair " + pair + " nor hunk " + hunk + " begins at " + a + "," + b;
            }
        }
        return a + "," + b;
    }

    /** "where they begin and how many lines they have". */
    private static void hunksTellWhereAndHowMany(Check check) {
        check.same("all four differ", hunks(row(1, 2, 3, 8, 8), row(0, 1, 2, 3, 9, 9, 9)), "0,0,0,1 3,2,4,3");
        check.same("where an empty part lies", hunks(row(1, 2, 3), row(1, 2, 7, 3)), "2,0,2,1");
        check.same("where an empty part of b lies", hunks(row(1, 2, 7, 3), row(1, 2, 3)), "2,1,2,0");
    }

    /**
     * "an ANCHOR is a place of the base that is in a pair of the COMMON of base and left and in one of that
     * of base and right".
     */
    private static void anchorsAreInPairsOfBoth(Check check) {
        // Line 3 is in all rows, but left's pairs are those of 1 and 2.
        merged(check, rows(row(1, 2, 3), row(1, 3, 2), row(1, 3, 5)), "1,2,2", 1, 3, 2, 3, 5);
        // Of the base's two 4 left has the first one alone.
        merged(check, rows(row(4, 4), row(4), row(4, 4, 4)), "1,0,2", 4, 4, 4);
        // Equal in left and right, but not in the base: no anchor.
        merged(check, rows(row(1), row(7, 5, 1), row(8, 5, 1)), "0,2,2", 7, 5, 8, 5, 1);
    }

    /** "What comes of it, part by part": of each part what its own lines say, not those of another one. */
    private static void partByPart(Check check) {
        int[] base = row(10, 1, 20, 2, 30, 3, 40, 4, 50);
        int[] left = row(11, 1, 20, 2, 31, 3, 41, 4, 50);
        int[] right = row(10, 1, 22, 2, 31, 3, 42, 4, 50);
        merged(check, rows(base, left, right), "6,1,1", 11, 1, 22, 2, 31, 3, 41, 42, 4, 50);
    }

    /** "left's, if it is right's". */
    private static void leftsIfItIsRights(Check check) {
        merged(check, rows(row(1, 2, 3), row(1, 8, 9, 3), row(1, 8, 9, 3)), "", 1, 8, 9, 3);
        merged(check, rows(row(1, 2, 3), row(8, 1, 2, 3), row(8, 1, 2, 3)), "", 8, 1, 2, 3);
        merged(check, rows(row(1, 2, 3), row(1, 2), row(1, 2)), "", 1, 2);
        merged(check, rows(row(), row(5, 6), row(5, 6)), "", 5, 6);
    }

    /** "or if right's is the base's". */
    private static void leftsIfRightsIsTheBases(Check check) {
        merged(check, rows(row(1, 2, 3), row(1, 8, 9, 3), row(1, 2, 3)), "", 1, 8, 9, 3);
        merged(check, rows(row(1, 2, 3), row(1, 3), row(1, 2, 3)), "", 1, 3);
        merged(check, rows(row(1, 2, 3), row(2, 3, 4), row(1, 2, 3)), "", 2, 3, 4);
        merged(check, rows(row(), row(5, 6), row()), "", 5, 6);
    }

    /** "else right's, if left's is the base's". */
    private static void rightsIfLeftsIsTheBases(Check check) {
        merged(check, rows(row(1, 2, 3), row(1, 2, 3), row(1, 8, 9, 3)), "", 1, 8, 9, 3);
        merged(check, rows(row(1, 2, 3), row(1, 2, 3), row(1, 3)), "", 1, 3);
        merged(check, rows(row(1, 2, 3), row(1, 2, 3), row(2, 3, 4)), "", 2, 3, 4);
        merged(check, rows(row(), row(), row(5, 6)), "", 5, 6);
    }

    /** "else both, left's and then right's: a CONFLICT". */
    private static void bothElse(Check check) {
        merged(check, rows(row(1, 2, 3), row(1, 8, 9, 3), row(1, 7, 3)), "1,2,1", 1, 8, 9, 7, 3);
        merged(check, rows(row(1, 2, 3), row(1, 7, 3), row(1, 8, 9, 3)), "1,1,2", 1, 7, 8, 9, 3);
        merged(check, rows(row(1, 2, 3), row(1, 3), row(1, 7, 3)), "1,0,1", 1, 7, 3);
        merged(check, rows(row(1, 2, 3), row(1, 7, 3), row(1, 3)), "1,1,0", 1, 7, 3);
        merged(check, rows(row(5), row(1, 5, 2), row(3, 5, 4)), "0,1,1 3,1,1", 1, 3, 5, 2, 4);
    }

    /** "(Parts are alike if their lines are.)": each line, their order and how many. */
    private static void alikeIfTheirLinesAre(Check check) {
        merged(check, rows(row(), row(1, 2, 3), row(1, 2, 3)), "", 1, 2, 3);
        merged(check, rows(row(), row(1, 2, 3), row(9, 2, 3)), "0,3,3", 1, 2, 3, 9, 2, 3);
        merged(check, rows(row(), row(1, 2, 3), row(1, 9, 3)), "0,3,3", 1, 2, 3, 1, 9, 3);
        merged(check, rows(row(), row(1, 2, 3), row(1, 2, 9)), "0,3,3", 1, 2, 3, 1, 2, 9);
        merged(check, rows(row(), row(1, 2, 3), row(3, 2, 1)), "0,3,3", 1, 2, 3, 3, 2, 1);
        merged(check, rows(row(), row(1, 2, 3), row(1, 2)), "0,3,2", 1, 2, 3, 1, 2);
        merged(check, rows(row(), row(1, 2), row(1, 2, 3)), "0,2,3", 1, 2, 1, 2, 3);
        // They are alike wherever they stand: left's other part has put them elsewhere.
        merged(check, rows(row(5), row(8, 8, 5, 1, 2), row(5, 1, 2)), "", 8, 8, 5, 1, 2);
    }

    /** "Each anchor's line comes, too." */
    private static void eachAnchorsLineComes(Check check) {
        merged(check, rows(row(1, 2, 3), row(1, 2, 3), row(1, 2, 3)), "", 1, 2, 3);
        merged(check, rows(row(6, 1, 6, 2, 6), row(7, 1, 7, 2, 7), row(8, 1, 8, 2, 8)), "0,1,1 3,1,1 6,1,1",
                7, 8, 1, 7, 8, 2, 7, 8);
        merged(check, rows(row(6, 1, 6, 2, 6), row(1, 2), row(1, 2)), "", 1, 2);
    }

    /** "for each HUNK of a, b in order". */
    private static void eachHunkInOrder(Check check) {
        int[] a = row(1, 10, 2, 20, 3, 30, 4);
        int[] b = row(1, 11, 2, 21, 3, 31, 4);
        patched(check, rows(a, b, row(0, 1, 10, 2, 20, 3, 30, 4, 0)), 0, 0, 1, 11, 2, 21, 3, 31, 4, 0);
        // The first one is done at the end, so that the others find no place behind it.
        patched(check, rows(a, b, row(2, 20, 3, 30, 4, 1, 10, 2)), 2, 2, 20, 3, 30, 4, 1, 11, 2);
        // The third one's place lies ahead of the second one's.
        patched(check, rows(a, b, row(1, 10, 2, 3, 30, 4, 2, 20, 3)), 1, 1, 11, 2, 3, 30, 4, 2, 21, 3);
    }

    /** "there b's part comes in place of a's". */
    private static void partComesInPlace(Check check) {
        patched(check, rows(row(1, 2, 3), row(1, 7, 8, 9, 3), row(0, 0, 1, 2, 3, 0)), 0, 0, 0, 1, 7, 8, 9, 3, 0);
        patched(check, rows(row(1, 2, 3, 4, 5), row(1, 9, 5), row(6, 1, 2, 3, 4, 5, 6)), 0, 6, 1, 9, 5, 6);
        patched(check, rows(row(1, 2, 3), row(1, 3), row(0, 1, 2, 3, 0)), 0, 0, 1, 3, 0);
        patched(check, rows(row(1, 3), row(1, 2, 3), row(0, 1, 3, 0)), 0, 0, 1, 2, 3, 0);
        // Once alone, wherever else a's part stands.
        patched(check, rows(row(2), row(9), row(2, 2, 2)), 0, 9, 2, 2);
    }

    /** "PATCHING a row c with what makes b of a": on a itself it makes b. */
    private static void whatMakesBOfA(Check check) {
        for (int[] a : TANGLED) {
            for (int[] b : TANGLED) {
                patched(check, rows(a, b, a), 0, b);
            }
        }
        int[] full = Check.rising(0, 60);
        int[] other = Check.rising(100, 60);
        other[30] = 30;
        patched(check, rows(full, other, full), 0, other);
    }

    /** "VERSIONS 0, 1, .. are copies of rows." */
    private static void versionsAreCopies(Check check) {
        Counted x = Check.filled(row(1, 2), row(3));
        check.same("version 0", x.commit(0), 0);
        check.same("version 1, of another row", x.commit(1), 1);
        check.same("version 2, of the same row", x.commit(1), 2);
        Check.fill(x, 0, 9);
        x.merge(5, 5, 5, 1);
        check.same("lines of version 0", x.origin(0, 0) + "," + x.origin(0, 1), "0,0");
        check.same("lines of version 1 and 2", x.origin(1, 0) + "," + x.origin(2, 0), "1,1");
        Check.fill(x, 1, 3, 9);
        check.same("version 3", x.commit(1), 3);
        check.same("it is told from version 2 as it was", x.origin(3, 0) + "," + x.origin(3, 1), "1,3");
    }

    /** "the origin of the other line of the pair": not the version before, and not the line's first one. */
    private static void originOfTheOtherLine(Check check) {
        Counted x = new Counted();
        int[][] versions = {{5}, {6, 5}, {6, 5, 7}, {5, 7}, {7, 5, 7}, {7, 5}};
        for (int[] version : versions) {
            Check.fill(x, 0, version);
            x.commit(0);
        }
        String[] due = {"0", "1,0", "1,0,2", "0,2", "4,0,2", "4,0"};
        for (int k = 0; k < due.length; k++) {
            int version = k;
            check.same("origins of " + k, Check.asked(1, versions[k].length, (one, what) -> x.origin(version, what)),
                    due[k]);
        }
    }
}
