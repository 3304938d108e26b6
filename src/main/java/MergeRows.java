/**
 * Rows of lines that people change: what two of them have in common, where they differ, three of
 * them merged, changes done on another row where they fit, and from which version each line comes.
 */
public final class MergeRows {
    public static final int NONE = -1;

    private static final int ROWS = 6;
    private static final int LINES = 60;
    private static final int VERSIONS = 30;

    /** The places of a row and its end. */
    private static final int PLACES = LINES + 1;

    /** Pairs or anchors leave at most one part more than a row has lines. */
    private static final int PARTS = LINES + 1;

    /** Each line of what comes of a merge or a patch is of one of two rows. */
    private static final int OUTCOME_LINES = 2 * LINES;

    private final Row[] rows;
    private final Common latestCommon;
    private final Hunks latestHunks;
    private final Patching patching;
    private final Versions versions;

    /** Two of them, so that a merge that throws leaves the conflicts of the latest one alone. */
    private Merging latestMerging;
    private Merging spareMerging;

    public MergeRows() {
        rows = new Row[ROWS];
        for (int k = 0; k < ROWS; k++) {
            rows[k] = new Row(LINES);
        }
        int[] lengths = new int[PLACES * PLACES];
        Common scratch = new Common(lengths);
        Common secondScratch = new Common(lengths);
        latestCommon = new Common(lengths);
        latestHunks = new Hunks(scratch);
        patching = new Patching(new Hunks(scratch));
        versions = new Versions(scratch);
        latestMerging = new Merging(scratch, secondScratch);
        spareMerging = new Merging(scratch, secondScratch);
    }

    public int put(int row, int line) throws IllegalArgumentException, UnsupportedOperationException {
        Row changed = rowAt(row);
        if (changed.count >= LINES) {
            throw new UnsupportedOperationException("the row is full");
        }
        changed.add(line);
        return changed.count;
    }

    public void clear(int row) throws IllegalArgumentException {
        rowAt(row).count = 0;
    }

    public int size(int row) throws IllegalArgumentException {
        return rowAt(row).count;
    }

    public int get(int row, int k) throws IllegalArgumentException, IndexOutOfBoundsException {
        Row read = rowAt(row);
        if (k < 0 || k >= read.count) {
            throw new IndexOutOfBoundsException("no such line");
        }
        return read.lines[k];
    }

    public int common(int a, int b) throws IllegalArgumentException {
        Row rowA = rowAt(a);
        Row rowB = rowAt(b);
        latestCommon.find(rowA, rowB);
        return latestCommon.count;
    }

    public int pair(int k, int side) throws IndexOutOfBoundsException {
        if (k < 0 || k >= latestCommon.count || side < 0 || side > 1) {
            throw new IndexOutOfBoundsException("no such pair or side");
        }
        return side == 0 ? latestCommon.placesA[k] : latestCommon.placesB[k];
    }

    public int hunks(int a, int b) throws IllegalArgumentException {
        Row rowA = rowAt(a);
        Row rowB = rowAt(b);
        latestHunks.find(rowA, rowB);
        return latestHunks.count;
    }

    public int hunk(int k, int what) throws IndexOutOfBoundsException {
        if (k < 0 || k >= latestHunks.count || what < 0 || what >= Hunks.WIDTH) {
            throw new IndexOutOfBoundsException("no such hunk or what");
        }
        return latestHunks.cells[k * Hunks.WIDTH + what];
    }

    public int merge(int base, int left, int right, int to)
            throws IllegalArgumentException, UnsupportedOperationException {
        Row baseRow = rowAt(base);
        Row leftRow = rowAt(left);
        Row rightRow = rowAt(right);
        Row toRow = rowAt(to);
        spareMerging.run(baseRow, leftRow, rightRow);
        fillWithOutcome(toRow, spareMerging.outcome);
        Merging done = spareMerging;
        spareMerging = latestMerging;
        latestMerging = done;
        return done.conflictCount;
    }

    public int conflict(int k, int what) throws IndexOutOfBoundsException {
        if (k < 0 || k >= latestMerging.conflictCount || what < 0 || what >= Merging.WIDTH) {
            throw new IndexOutOfBoundsException("no such conflict or what");
        }
        return latestMerging.conflictCells[k * Merging.WIDTH + what];
    }

    public int patch(int a, int b, int c, int to)
            throws IllegalArgumentException, UnsupportedOperationException {
        Row rowA = rowAt(a);
        Row rowB = rowAt(b);
        Row rowC = rowAt(c);
        Row toRow = rowAt(to);
        patching.run(rowA, rowB, rowC);
        fillWithOutcome(toRow, patching.outcome);
        return patching.rejected;
    }

    public int commit(int row) throws IllegalArgumentException, UnsupportedOperationException {
        Row copied = rowAt(row);
        if (versions.count >= VERSIONS) {
            throw new UnsupportedOperationException("there are as many versions as there can be");
        }
        versions.add(copied);
        return versions.count - 1;
    }

    public int origin(int version, int k) throws IllegalArgumentException, IndexOutOfBoundsException {
        if (version < 0 || version >= versions.count) {
            throw new IllegalArgumentException("no such version");
        }
        if (k < 0 || k >= versions.sizes[version]) {
            throw new IndexOutOfBoundsException("no such line");
        }
        return versions.origins[version * LINES + k];
    }

    private Row rowAt(int row) throws IllegalArgumentException {
        if (row < 0 || row >= rows.length) {
            throw new IllegalArgumentException("no such row");
        }
        return rows[row];
    }

    private static void fillWithOutcome(Row to, Row outcome) throws UnsupportedOperationException {
        if (outcome.count > LINES) {
            throw new UnsupportedOperationException("the row would have too many lines");
        }
        to.become(outcome);
    }

    /** Lines, up to as many as it was made for. */
    private static final class Row {
        final int[] lines;
        int count;

        Row(int mostLines) {
            lines = new int[mostLines];
            count = 0;
        }

        void add(int line) {
            if (count < lines.length) {
                lines[count] = line;
                count++;
            }
        }

        void addPart(Row other, int from, int end) {
            for (int k = Math.max(from, 0); k < end && k < other.count; k++) {
                add(other.lines[k]);
            }
        }

        void become(Row other) {
            count = 0;
            addPart(other, 0, other.count);
        }

        boolean hasAt(int place, int line) {
            return place >= 0 && place < count && lines[place] == line;
        }

        int firstPlaceOf(int line, int from) {
            for (int k = from; k < count; k++) {
                if (lines[k] == line) {
                    return k;
                }
            }
            return NONE;
        }
    }

    /** The pairs of two rows. */
    private static final class Common {
        final int[] placesA;
        final int[] placesB;
        int count;

        /** How many pairs there can be from a place of a and one of b on; shared, as it is big. */
        private final int[] lengths;

        Common(int[] sharedLengths) {
            placesA = new int[LINES];
            placesB = new int[LINES];
            count = 0;
            lengths = sharedLengths;
        }

        /**
         * A line of a is taken as soon as no pair is lost by it, with the first equal line of b:
         * that one leaves the most of b, so a's places, and then b's, are the first ones.
         */
        void find(Row a, Row b) {
            measure(a, b);
            count = 0;
            int nextB = 0;
            for (int placeA = 0; placeA < a.count; placeA++) {
                int placeB = b.firstPlaceOf(a.lines[placeA], nextB);
                if (placeB != NONE && losesNoPair(placeA, nextB, placeB)) {
                    addPair(placeA, placeB);
                    nextB = placeB + 1;
                }
            }
        }

        private void measure(Row a, Row b) {
            clearEnds(a.count, b.count);
            for (int i = a.count - 1; i >= 0; i--) {
                for (int j = b.count - 1; j >= 0; j--) {
                    int here = i * PLACES + j;
                    lengths[here] = a.lines[i] == b.lines[j]
                            ? 1 + lengths[here + PLACES + 1]
                            : Math.max(lengths[here + PLACES], lengths[here + 1]);
                }
            }
        }

        /** The rows measured before may have been longer. */
        private void clearEnds(int endA, int endB) {
            for (int i = 0; i <= endA; i++) {
                lengths[i * PLACES + endB] = 0;
            }
            for (int j = 0; j <= endB; j++) {
                lengths[endA * PLACES + j] = 0;
            }
        }

        private boolean losesNoPair(int placeA, int nextB, int placeB) {
            int most = lengths[placeA * PLACES + nextB];
            return 1 + lengths[(placeA + 1) * PLACES + placeB + 1] == most;
        }

        private void addPair(int placeA, int placeB) {
            if (count < LINES) {
                placesA[count] = placeA;
                placesB[count] = placeB;
                count++;
            }
        }
    }

    /** The hunks of two rows, each as WIDTH cells in the order in which they are asked for. */
    private static final class Hunks {
        static final int BEGIN_A = 0;
        static final int LENGTH_A = 1;
        static final int BEGIN_B = 2;
        static final int LENGTH_B = 3;
        static final int WIDTH = 4;

        final int[] cells;
        int count;
        private final Common common;

        Hunks(Common scratch) {
            cells = new int[WIDTH * PARTS];
            count = 0;
            common = scratch;
        }

        void find(Row a, Row b) {
            common.find(a, b);
            count = 0;
            int fromA = 0;
            int fromB = 0;
            for (int k = 0; k < common.count; k++) {
                addUnlessEmpty(fromA, common.placesA[k], fromB, common.placesB[k]);
                fromA = common.placesA[k] + 1;
                fromB = common.placesB[k] + 1;
            }
            addUnlessEmpty(fromA, a.count, fromB, b.count);
        }

        private void addUnlessEmpty(int fromA, int endA, int fromB, int endB) {
            if ((fromA < endA || fromB < endB) && count < PARTS) {
                int cell = count * WIDTH;
                cells[cell + BEGIN_A] = fromA;
                cells[cell + LENGTH_A] = endA - fromA;
                cells[cell + BEGIN_B] = fromB;
                cells[cell + LENGTH_B] = endB - fromB;
                count++;
            }
        }
    }

    /** The lines of a row from one place to ahead of another one. */
    private static final class Part {
        Row row;
        int from;
        int end;

        Part() {
            row = new Row(0);
            from = 0;
            end = 0;
        }

        void startOn(Row other) {
            row = other;
            from = 0;
            end = 0;
        }

        void stepOverAnchor() {
            from = end + 1;
        }

        int length() {
            return end - from;
        }

        boolean isLike(Part other) {
            if (length() != other.length()) {
                return false;
            }
            for (int k = from; k < end && k < row.count; k++) {
                if (!other.row.hasAt(other.from + k - from, row.lines[k])) {
                    return false;
                }
            }
            return true;
        }
    }

    /** What comes of three rows, and its conflicts, each as WIDTH cells. */
    private static final class Merging {
        static final int BEGIN = 0;
        static final int LEFT_LENGTH = 1;
        static final int RIGHT_LENGTH = 2;
        static final int WIDTH = 3;

        final Row outcome;
        final int[] conflictCells;
        int conflictCount;
        private final Common baseAndLeft;
        private final Common baseAndRight;
        private final Part basePart;
        private final Part leftPart;
        private final Part rightPart;

        Merging(Common scratch, Common secondScratch) {
            outcome = new Row(OUTCOME_LINES);
            conflictCells = new int[WIDTH * PARTS];
            conflictCount = 0;
            baseAndLeft = scratch;
            baseAndRight = secondScratch;
            basePart = new Part();
            leftPart = new Part();
            rightPart = new Part();
        }

        void run(Row base, Row left, Row right) {
            baseAndLeft.find(base, left);
            baseAndRight.find(base, right);
            outcome.count = 0;
            conflictCount = 0;
            basePart.startOn(base);
            leftPart.startOn(left);
            rightPart.startOn(right);
            mergeUpToAnchors(base);
            mergeParts(base.count, left.count, right.count);
        }

        private void mergeUpToAnchors(Row base) {
            int r = 0;
            for (int l = 0; l < baseAndLeft.count; l++) {
                int place = baseAndLeft.placesA[l];
                while (r < baseAndRight.count && baseAndRight.placesA[r] < place) {
                    r++;
                }
                if (r < baseAndRight.count && baseAndRight.placesA[r] == place) {
                    mergeParts(place, baseAndLeft.placesB[l], baseAndRight.placesB[r]);
                    outcome.addPart(base, place, place + 1);
                    stepPartsOverAnchor();
                }
            }
        }

        private void stepPartsOverAnchor() {
            basePart.stepOverAnchor();
            leftPart.stepOverAnchor();
            rightPart.stepOverAnchor();
        }

        private void mergeParts(int baseEnd, int leftEnd, int rightEnd) {
            basePart.end = baseEnd;
            leftPart.end = leftEnd;
            rightPart.end = rightEnd;
            if (leftPart.isLike(rightPart) || rightPart.isLike(basePart)) {
                take(leftPart);
            } else if (leftPart.isLike(basePart)) {
                take(rightPart);
            } else {
                addConflict();
                take(leftPart);
                take(rightPart);
            }
        }

        private void take(Part part) {
            outcome.addPart(part.row, part.from, part.end);
        }

        private void addConflict() {
            if (conflictCount < PARTS) {
                int cell = conflictCount * WIDTH;
                conflictCells[cell + BEGIN] = outcome.count;
                conflictCells[cell + LEFT_LENGTH] = leftPart.length();
                conflictCells[cell + RIGHT_LENGTH] = rightPart.length();
                conflictCount++;
            }
        }
    }

    /** What comes of a row on which the hunks of two others are done. */
    private static final class Patching {
        final Row outcome;
        int rejected;
        private final Hunks hunks;

        Patching(Hunks own) {
            outcome = new Row(OUTCOME_LINES);
            rejected = 0;
            hunks = own;
        }

        /** All places are those of c as it was: the outcome is a row of its own. */
        void run(Row a, Row b, Row c) {
            hunks.find(a, b);
            outcome.count = 0;
            rejected = 0;
            int doneEnd = 0;
            int off = 0;
            for (int k = 0; k < hunks.count; k++) {
                int cell = k * Hunks.WIDTH;
                int begin = hunks.cells[cell + Hunks.BEGIN_A];
                int length = hunks.cells[cell + Hunks.LENGTH_A];
                int beginB = hunks.cells[cell + Hunks.BEGIN_B];
                int place = nearestFit(a, begin, length, c, doneEnd, begin + off);
                if (place == NONE) {
                    rejected++;
                } else {
                    outcome.addPart(c, doneEnd, place);
                    outcome.addPart(b, beginB, beginB + hunks.cells[cell + Hunks.LENGTH_B]);
                    doneEnd = place + length;
                    off = place - begin;
                }
            }
            outcome.addPart(c, doneEnd, c.count);
        }

        private static int nearestFit(Row a, int begin, int length, Row c, int from, int wanted) {
            int nearest = NONE;
            for (int place = from; place <= c.count - length; place++) {
                boolean nearer = nearest == NONE || Math.abs(place - wanted) < Math.abs(nearest - wanted);
                if (nearer && fits(a, begin, length, c, place)) {
                    nearest = place;
                }
            }
            return nearest;
        }

        /** The part is looked at together with the lines round it that a has. */
        private static boolean fits(Row a, int begin, int length, Row c, int place) {
            int first = Math.max(begin - 1, 0);
            int end = Math.min(begin + length + 1, a.count);
            for (int k = first; k < end; k++) {
                if (!c.hasAt(place + k - begin, a.lines[k])) {
                    return false;
                }
            }
            return true;
        }
    }

    /** Of each version how many lines it has and their origins; the lines of the newest one. */
    private static final class Versions {
        final int[] sizes;
        final int[] origins;
        int count;
        private final Row newest;
        private final Common common;

        Versions(Common scratch) {
            sizes = new int[VERSIONS];
            origins = new int[VERSIONS * LINES];
            count = 0;
            newest = new Row(LINES);
            common = scratch;
        }

        void add(Row row) {
            if (count < VERSIONS) {
                fillOrigins(row);
                sizes[count] = row.count;
                newest.become(row);
                count++;
            }
        }

        private void fillOrigins(Row row) {
            int first = count * LINES;
            for (int k = 0; k < row.count; k++) {
                origins[first + k] = count;
            }
            if (count > 0) {
                common.find(newest, row);
                for (int k = 0; k < common.count; k++) {
                    origins[first + common.placesB[k]] = origins[first - LINES + common.placesA[k]];
                }
            }
        }
    }
}
