import java.util.ArrayList;
import java.util.List;

/** The document's words done once more in the plainest way, on lists, to compare answers with. */
final class PlainModel implements Face {
    private final List<List<Integer>> rows = new ArrayList<>();
    private List<int[]> pairs = new ArrayList<>();
    private List<int[]> hunks = new ArrayList<>();
    private List<int[]> conflicts = new ArrayList<>();
    private final List<List<Integer>> versions = new ArrayList<>();

    PlainModel() {
        for (int k = 0; k < 6; k++) {
            rows.add(new ArrayList<>());
        }
    }

    private List<Integer> row(int row) {
        if (row < 0 || row > 5) {
            throw new IllegalArgumentException();
        }
        return rows.get(row);
    }

    @Override
    public int put(int row, int line) {
        if (row(row).size() == 60) {
            throw new UnsupportedOperationException();
        }
        row(row).add(line);
        return row(row).size();
    }

    @Override
    public int clear(int row) {
        row(row).clear();
        return 0;
    }

    @Override
    public int size(int row) {
        return row(row).size();
    }

    @Override
    public int get(int row, int k) {
        List<Integer> lines = row(row);
        if (k < 0 || k >= lines.size()) {
            throw new IndexOutOfBoundsException();
        }
        return lines.get(k);
    }

    @Override
    public int common(int a, int b) {
        pairs = commonOf(row(a), row(b));
        return pairs.size();
    }

    @Override
    public int pair(int k, int side) {
        return cell(pairs, k, side, 2);
    }

    @Override
    public int hunks(int a, int b) {
        hunks = hunksOf(row(a), row(b));
        return hunks.size();
    }

    @Override
    public int hunk(int k, int what) {
        return cell(hunks, k, what, 4);
    }

    @Override
    public int conflict(int k, int what) {
        return cell(conflicts, k, what, 3);
    }

    private static int cell(List<int[]> told, int k, int what, int width) {
        if (k < 0 || k >= told.size() || what < 0 || what >= width) {
            throw new IndexOutOfBoundsException();
        }
        return told.get(k)[what];
    }

    /** Of every two places the best pairs behind them, compared as the document compares them. */
    static List<int[]> commonOf(List<Integer> a, List<Integer> b) {
        List<List<List<int[]>>> best = new ArrayList<>();
        for (int i = 0; i <= a.size(); i++) {
            best.add(new ArrayList<>());
            for (int j = 0; j <= b.size(); j++) {
                best.get(i).add(new ArrayList<>());
            }
        }
        for (int i = a.size() - 1; i >= 0; i--) {
            for (int j = b.size() - 1; j >= 0; j--) {
                List<int[]> chosen = better(best.get(i + 1).get(j), best.get(i).get(j + 1));
                if (a.get(i).equals(b.get(j))) {
                    List<int[]> with = new ArrayList<>();
                    with.add(new int[] {i, j});
                    with.addAll(best.get(i + 1).get(j + 1));
                    chosen = better(chosen, with);
                }
                best.get(i).set(j, chosen);
            }
        }
        return best.get(0).get(0);
    }

    private static List<int[]> better(List<int[]> x, List<int[]> y) {
        if (x.size() != y.size()) {
            return x.size() > y.size() ? x : y;
        }
        for (int side = 0; side < 2; side++) {
            for (int k = 0; k < x.size(); k++) {
                if (x.get(k)[side] != y.get(k)[side]) {
                    return x.get(k)[side] < y.get(k)[side] ? x : y;
                }
            }
        }
        return x;
    }

    private static List<int[]> hunksOf(List<Integer> a, List<Integer> b) {
        List<int[]> ends = new ArrayList<>(commonOf(a, b));
        ends.add(new int[] {a.size(), b.size()});
        List<int[]> found = new ArrayList<>();
        int[] before = {-1, -1};
        for (int[] end : ends) {
            int[] hunk = {before[0] + 1, end[0] - before[0] - 1, before[1] + 1, end[1] - before[1] - 1};
            if (hunk[1] + hunk[3] > 0) {
                found.add(hunk);
            }
            before = end;
        }
        return found;
    }

    @Override
    public int merge(int base, int left, int right, int to) {
        List<Integer> o = row(base);
        List<Integer> l = row(left);
        List<Integer> r = row(right);
        row(to);
        List<int[]> anchors = new ArrayList<>();
        List<int[]> ofRight = commonOf(o, r);
        for (int[] p : commonOf(o, l)) {
            for (int[] q : ofRight) {
                if (p[0] == q[0]) {
                    anchors.add(new int[] {p[0], p[1], q[1]});
                }
            }
        }
        anchors.add(new int[] {o.size(), l.size(), r.size()});
        List<Integer> out = new ArrayList<>();
        List<int[]> told = new ArrayList<>();
        int[] from = {0, 0, 0};
        for (int[] anchor : anchors) {
            List<Integer> oPart = o.subList(from[0], anchor[0]);
            List<Integer> lPart = l.subList(from[1], anchor[1]);
            List<Integer> rPart = r.subList(from[2], anchor[2]);
            if (lPart.equals(rPart) || rPart.equals(oPart)) {
                out.addAll(lPart);
            } else if (lPart.equals(oPart)) {
                out.addAll(rPart);
            } else {
                told.add(new int[] {out.size(), lPart.size(), rPart.size()});
                out.addAll(lPart);
                out.addAll(rPart);
            }
            if (anchor[0] < o.size()) {
                out.add(o.get(anchor[0]));
            }
            from = new int[] {anchor[0] + 1, anchor[1] + 1, anchor[2] + 1};
        }
        replace(to, out);
        conflicts = told;
        return told.size();
    }

    private void replace(int to, List<Integer> out) {
        if (out.size() > 60) {
            throw new UnsupportedOperationException();
        }
        rows.set(to, out);
    }

    /** The hunks are done from the last one to the first one, so that places in c stay. */
    @Override
    public int patch(int a, int b, int c, int to) {
        List<Integer> oldRow = row(a);
        List<Integer> newRow = row(b);
        List<Integer> out = new ArrayList<>(row(c));
        row(to);
        List<int[]> done = new ArrayList<>();
        int rejected = 0;
        int end = 0;
        int off = 0;
        for (int[] hunk : hunksOf(oldRow, newRow)) {
            int p = nearest(oldRow, hunk, row(c), end, hunk[0] + off);
            if (p == MergeRows.NONE) {
                rejected++;
            } else {
                done.add(new int[] {p, hunk[1], hunk[2], hunk[3]});
                end = p + hunk[1];
                off = p - hunk[0];
            }
        }
        for (int k = done.size() - 1; k >= 0; k--) {
            int[] hunk = done.get(k);
            out.subList(hunk[0], hunk[0] + hunk[1]).clear();
            out.addAll(hunk[0], newRow.subList(hunk[2], hunk[2] + hunk[3]));
        }
        replace(to, out);
        return rejected;
    }

    private static int nearest(List<Integer> a, int[] hunk, List<Integer> c, int end, int wanted) {
        for (int far = 0; far <= 200; far++) {
            if (fits(a, hunk, c, end, wanted - far)) {
                return wanted - far;
            }
            if (fits(a, hunk, c, end, wanted + far)) {
                return wanted + far;
            }
        }
        return MergeRows.NONE;
    }

    private static boolean fits(List<Integer> a, int[] hunk, List<Integer> c, int end, int p) {
        if (p < end || p + hunk[1] > c.size()) {
            return false;
        }
        int behindA = hunk[0] + hunk[1];
        int behindC = p + hunk[1];
        boolean stands = c.subList(p, behindC).equals(a.subList(hunk[0], behindA));
        boolean ahead = hunk[0] == 0 || p > 0 && c.get(p - 1).equals(a.get(hunk[0] - 1));
        boolean behind = behindA == a.size() || behindC < c.size() && c.get(behindC).equals(a.get(behindA));
        return stands && ahead && behind;
    }

    @Override
    public int commit(int row) {
        List<Integer> copied = new ArrayList<>(row(row));
        if (versions.size() == 30) {
            throw new UnsupportedOperationException();
        }
        versions.add(copied);
        return versions.size() - 1;
    }

    @Override
    public int origin(int version, int k) {
        if (version < 0 || version >= versions.size()) {
            throw new IllegalArgumentException();
        }
        if (k < 0 || k >= versions.get(version).size()) {
            throw new IndexOutOfBoundsException();
        }
        if (version > 0) {
            for (int[] pair : commonOf(versions.get(version - 1), versions.get(version))) {
                if (pair[1] == k) {
                    return origin(version - 1, pair[0]);
                }
            }
        }
        return version;
    }
}
