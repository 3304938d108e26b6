/** Promises 13 and 14: commit and origin. */
public final class VersionsTest {
    public static void main(String[] args) {
        Check check = new Check();
        origins(check);
        copies(check);
        emptyVersionBetween(check);
        thirtyVersions(check);
        wrongInputs(check);
        check.finish();
    }

    private static void committed(Check check, Counted x, int version, String origins, int... lines) {
        Check.fill(x, 3, lines);
        check.same("version", x.commit(3), version);
        check.same("origins", Check.asked(1, lines.length, (k, what) -> x.origin(version, what)), origins);
    }

    private static void origins(Check check) {
        Counted x = new Counted();
        committed(check, x, 0, "0,0,0", 1, 2, 3);
        committed(check, x, 1, "0,1,0", 1, 9, 3);
        committed(check, x, 2, "2,0,1,0", 4, 1, 9, 3);
        committed(check, x, 3, "2,0,1,0", 4, 1, 9, 3);
        committed(check, x, 4, "0,4,0", 1, 2, 3);
        committed(check, x, 5, "5,0", 3, 1);
        committed(check, x, 6, "5,6,0", 3, 3, 1);
        check.same("an earlier one", x.origin(1, 0) + "," + x.origin(1, 1) + "," + x.origin(1, 2), "0,1,0");
        check.refused("a line that it hadn't", Check.NO_INDEX, () -> x.origin(1, 3));
        check.refused("a line that it had", Check.NO_INDEX, () -> x.origin(5, 2));
    }

    private static void copies(Check check) {
        Counted x = new Counted();
        Check.fill(x, 0, 1, 2);
        Check.fill(x, 1, 2, 5);
        check.same("row 0", x.commit(0), 0);
        x.clear(0);
        check.same("row 1", x.commit(1), 1);
        check.same("origins", x.origin(1, 0) + "," + x.origin(1, 1), "0,1");
        check.same("version 0", x.origin(0, 0) + "," + x.origin(0, 1), "0,0");
        check.lines("the row stays", x, 1, 2, 5);
    }

    private static void emptyVersionBetween(Check check) {
        Counted x = new Counted();
        committed(check, x, 0, "0,0", 1, 2);
        committed(check, x, 1, "");
        check.refused("an empty version", Check.NO_INDEX, () -> x.origin(1, 0));
        committed(check, x, 2, "2,2", 1, 2);
    }

    private static void thirtyVersions(Check check) {
        Counted x = new Counted();
        for (int version = 0; version < 30; version++) {
            x.put(0, 100 + version);
            check.same("version", x.commit(0), version);
        }
        for (int k = 0; k < 30; k++) {
            check.same("origin", x.origin(29, k), k);
        }
        check.refused("the 31st", Check.NO_ROOM, () -> x.commit(0));
        check.refused("no such row ahead of no room", Check.NO_ARGUMENT, () -> x.commit(6));
        check.refused("version 30", Check.NO_ARGUMENT, () -> x.origin(30, 0));
        check.same("still there", x.origin(29, 29), 29);
        Counted y = new Counted();
        Check.fill(y, 5, Check.rising(0, 60));
        for (int version = 0; version < 30; version++) {
            check.same("a full version", y.commit(5), version);
        }
        check.same("of the first", y.origin(29, 59), 0);
        check.refused("line 60", Check.NO_INDEX, () -> y.origin(28, 60));
    }

    private static void wrongInputs(Check check) {
        Counted x = new Counted();
        Check.fill(x, 0, 1, 2);
        for (int row : new int[] {-1, 6, Integer.MIN_VALUE, Integer.MAX_VALUE}) {
            check.refused("commit", Check.NO_ARGUMENT, () -> x.commit(row));
        }
        check.same("no version came of it", x.commit(0), 0);
        for (int version : new int[] {-1, 1, 30, Integer.MIN_VALUE, Integer.MAX_VALUE}) {
            check.refused("origin", Check.NO_ARGUMENT, () -> x.origin(version, 0));
            check.refused("origin, both wrong", Check.NO_ARGUMENT, () -> x.origin(version, 2));
        }
        for (int k : new int[] {-1, 2, 60, Integer.MIN_VALUE, Integer.MAX_VALUE}) {
            check.refused("origin's line", Check.NO_INDEX, () -> x.origin(0, k));
        }
    }
}
