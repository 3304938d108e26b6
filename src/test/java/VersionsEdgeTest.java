/** The boundary cases of promises 13 and 14 and of Terms 5, each sentence with a test of its own. */
public final class VersionsEdgeTest {
    public static void main(String[] args) {
        Check check = new Check();
        commitNoSuchRow(check);
        commitThirty(check);
        commitCopies(check);
        commitEmptyAndFull(check);
        originNoSuchVersion(check);
        originNoSuchLine(check);
        originOfTheFirstVersion(check);
        originOfAPair(check);
        originThroughAllVersions(check);
        check.finish();
    }

    private static String origins(Counted x, int version, int lines) {
        return Check.asked(1, lines, (k, what) -> x.origin(version, what));
    }

    private static void committed(Check check, Counted x, int version, String origins, int... lines) {
        Check.fill(x, 0, lines);
        check.same("version", x.commit(0), version);
        check.same("origins", origins(x, version, lines.length), origins);
        check.refused("no line behind them", Check.NO_INDEX, () -> x.origin(version, lines.length));
    }

    /** commit: "IllegalArgumentException if there is no such row". */
    private static void commitNoSuchRow(Check check) {
        for (int no : Pasts.NO_ROWS) {
            check.refusedUnchanged("new", Check.NO_ARGUMENT, Pasts::none, x -> x.commit(no));
            check.refusedUnchanged("two versions", Check.NO_ARGUMENT, Pasts::ordinary, x -> x.commit(no));
            check.refusedUnchanged("30 versions", Check.NO_ARGUMENT, Pasts::thirtyVersions, x -> x.commit(no));
        }
        Counted x = new Counted();
        Check.fill(x, 0, 1);
        Check.fill(x, 5, 1, 2);
        check.same("the first row", x.commit(0), 0);
        check.same("the last row", x.commit(5), 1);
        check.same("its origins", origins(x, 1, 2), "0,1");
    }

    /** commit: "UnsupportedOperationException if there are 30". */
    private static void commitThirty(Check check) {
        Counted x = new Counted();
        for (int version = 0; version < 30; version++) {
            x.put(1, version);
            check.same("version", x.commit(1), version);
        }
        for (int k = 0; k < 6; k++) {
            int row = k;
            check.refused("one more", Check.NO_ROOM, () -> x.commit(row));
            check.refusedUnchanged("one more", Check.NO_ROOM, Pasts::thirtyVersions, y -> y.commit(row));
        }
        check.same("the newest", x.origin(29, 29), 29);
        check.refused("line 30", Check.NO_INDEX, () -> x.origin(29, 30));
        check.refused("version 30", Check.NO_ARGUMENT, () -> x.origin(30, 0));
        x.clear(1);
        check.refused("an empty row, too", Check.NO_ROOM, () -> x.commit(1));
        check.same("rows go on", x.put(1, 3), 1);
        // With 29 there is room for one.
        Counted y = new Counted();
        for (int version = 0; version < 29; version++) {
            y.commit(2);
        }
        y.put(3, 8);
        check.refused("version 29 isn't there yet", Check.NO_ARGUMENT, () -> y.origin(29, 0));
        check.same("the last one", y.commit(3), 29);
        check.same("its origin", y.origin(29, 0), 29);
        check.refused("now there are 30", Check.NO_ROOM, () -> y.commit(3));
    }

    /** "A row is copied": what becomes of the row later is not the version's. */
    private static void commitCopies(Check check) {
        Counted x = new Counted();
        Check.fill(x, 0, 1, 2);
        x.commit(0);
        x.put(0, 3);
        check.refused("a line put later", Check.NO_INDEX, () -> x.origin(0, 2));
        x.clear(0);
        check.same("a row cleared later", origins(x, 0, 2), "0,0");
        Check.fill(x, 0, 5, 5);
        Check.fill(x, 1, 2, 5);
        check.same("another row", x.commit(1), 1);
        check.same("compared with the version, not the row", origins(x, 1, 2), "0,1");
        check.lines("the row stays", x, 1, 2, 5);
    }

    private static void commitEmptyAndFull(Check check) {
        Counted x = new Counted();
        check.same("an empty row", x.commit(0), 0);
        check.refused("it has no line", Check.NO_INDEX, () -> x.origin(0, 0));
        check.same("an empty row again", x.commit(5), 1);
        Check.fill(x, 0, Check.rising(0, 60));
        check.same("a full row", x.commit(0), 2);
        check.same("its first line", x.origin(2, 0), 2);
        check.same("its last line", x.origin(2, 59), 2);
        check.refused("line 60", Check.NO_INDEX, () -> x.origin(2, 60));
        check.same("a full row again", x.commit(0), 3);
        check.same("its first line", x.origin(3, 0), 2);
        check.same("its last line", x.origin(3, 59), 2);
        check.same("an empty row", x.commit(1), 4);
        check.same("a full row behind it", x.commit(0), 5);
        check.same("all lines are new", x.origin(5, 59), 5);
        check.same("the first full one", x.origin(2, 59), 2);
        check.refused("the empty one between", Check.NO_INDEX, () -> x.origin(4, 0));
    }

    /** origin: "IllegalArgumentException if there is no such version", whatever line is asked for. */
    private static void originNoSuchVersion(Check check) {
        int[] lines = {Pasts.LEAST, -1, 0, 1, 59, 60, Pasts.MOST};
        for (int k : lines) {
            for (int no : Pasts.NO_INDICES) {
                check.refusedUnchanged("origin", Check.NO_ARGUMENT, Pasts::ordinary, x -> x.origin(no, k));
                check.refusedUnchanged("of 30", Check.NO_ARGUMENT, Pasts::thirtyVersions, x -> x.origin(no, k));
            }
            check.refusedUnchanged("one too far", Check.NO_ARGUMENT, Pasts::ordinary, x -> x.origin(2, k));
            check.refusedUnchanged("two too far", Check.NO_ARGUMENT, Pasts::ordinary, x -> x.origin(3, k));
            check.refusedUnchanged("new", Check.NO_ARGUMENT, Pasts::none, x -> x.origin(0, k));
            check.refusedUnchanged("version 30", Check.NO_ARGUMENT, Pasts::thirtyVersions, x -> x.origin(30, k));
            check.refusedUnchanged("version 31", Check.NO_ARGUMENT, Pasts::thirtyVersions, x -> x.origin(31, k));
        }
        Counted x = new Counted();
        Pasts.thirtyVersions(x);
        check.same("the last version", x.origin(29, 1), 0);
        check.same("the first version", x.origin(0, 0), 0);
    }

    /** origin: "IndexOutOfBoundsException if it has no such line". */
    private static void originNoSuchLine(Check check) {
        for (int version = 0; version < 2; version++) {
            int asked = version;
            for (int k : Pasts.NO_INDICES) {
                check.refusedUnchanged("line", Check.NO_INDEX, Pasts::ordinary, x -> x.origin(asked, k));
            }
        }
        check.refusedUnchanged("one too far", Check.NO_INDEX, Pasts::ordinary, x -> x.origin(0, 4));
        check.refusedUnchanged("one too far", Check.NO_INDEX, Pasts::ordinary, x -> x.origin(1, 6));
        check.refusedUnchanged("one too far", Check.NO_INDEX, Pasts::thirtyVersions, x -> x.origin(29, 2));
        check.refusedUnchanged("none at all", Check.NO_INDEX, x -> x.commit(0), x -> x.origin(0, 0));
        check.refusedUnchanged("none at all", Check.NO_INDEX, x -> x.commit(0), x -> x.origin(0, -1));
        Counted x = new Counted();
        Pasts.ordinary(x);
        check.same("the first and the last line", x.origin(0, 0) + "," + x.origin(0, 3), "0,0");
        check.same("the first and the last line", x.origin(1, 0) + "," + x.origin(1, 5), "0,1");
    }

    /** Version 0 has none before it: all its lines are its own. */
    private static void originOfTheFirstVersion(Check check) {
        Counted x = new Counted();
        committed(check, x, 0, "0,0,0", 7, 7, 8);
        Counted y = new Counted();
        committed(check, y, 0, "");
        committed(check, y, 1, "1", 7);
    }

    /** "if its place is in a pair of the COMMON of the version before and it, .. else that version itself". */
    private static void originOfAPair(Check check) {
        Counted x = new Counted();
        committed(check, x, 0, "0,0", 1, 2);
        committed(check, x, 1, "1,0,0,1", 9, 1, 2, 9);
        committed(check, x, 2, "0,2", 1, 1);
        committed(check, x, 3, "0,2,3", 1, 1, 1);
        committed(check, x, 4, "0", 1);
        committed(check, x, 5, "0,5", 1, 2);
        // Line 1 is back, but the version right before had none.
        committed(check, x, 6, "5", 2);
        committed(check, x, 7, "7,5", 1, 2);
    }

    private static void originThroughAllVersions(Check check) {
        Counted x = new Counted();
        x.put(0, 1000);
        for (int version = 0; version < 30; version++) {
            check.same("version", x.commit(0), version);
            check.same("its line", x.origin(version, 0), 0);
            x.put(0, version);
        }
        Counted full = new Counted();
        Check.fill(full, 0, Check.rising(0, 60));
        for (int version = 0; version < 30; version++) {
            check.same("a full version", full.commit(0), version);
            check.same("its first and last line", full.origin(version, 0) + "," + full.origin(version, 59), "0,0");
        }
        check.same("the oldest and the newest", x.origin(29, 0) + "," + x.origin(29, 29), "0,29");
        check.same("of version 15", x.origin(15, 0) + "," + x.origin(15, 15), "0,15");
    }
}
