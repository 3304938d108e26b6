/** Pasts of objects from which several tests start, and arguments that are always wrong. */
final class Pasts {
    static final int LEAST = Integer.MIN_VALUE;
    static final int MOST = Integer.MAX_VALUE;
    static final int[] NO_ROWS = {LEAST, LEAST + 1, -6, -2, -1, 6, 7, 60, 1 << 30, MOST - 1, MOST};

    /** Times 2, 3, 4 or 60 these come near 0 again in an int. */
    static final int[] NO_INDICES = {LEAST, LEAST + 1, -2, -1, 60, 61, 1 << 30, -(1 << 30), 1431655766,
        71582789, MOST - 1, MOST};

    private Pasts() {
    }

    static void none(Face x) {
    }

    /** Some of everything: five rows with lines, three pairs, two hunks, one conflict, two versions. */
    static void ordinary(Face x) {
        Check.fill(x, 0, 1, 2, 3, 4);
        Check.fill(x, 1, 1, 8, 3, 4);
        Check.fill(x, 2, 1, 9, 9, 3, 5);
        Check.fill(x, 4, LEAST, MOST);
        x.commit(0);
        x.merge(0, 1, 2, 3);
        x.commit(3);
        x.common(0, 1);
        x.hunks(0, 2);
    }

    /** Row 0 is full, row 5 has one line less, row 1 one line. */
    static void fullRow(Face x) {
        Check.fill(x, 0, Check.rising(100, 60));
        Check.fill(x, 5, Check.rising(200, 59));
        Check.fill(x, 1, 159);
        x.commit(1);
        x.merge(1, 2, 3, 4);
        x.common(0, 1);
        x.hunks(0, 1);
    }

    /** Thirty versions of row 0, which has two lines. */
    static void thirtyVersions(Face x) {
        Check.fill(x, 0, 1, 2);
        Check.fill(x, 1, 2, 3);
        for (int version = 0; version < 30; version++) {
            x.commit(0);
        }
        x.hunks(0, 1);
        x.common(0, 1);
    }
}
