import java.util.ArrayList;
import java.util.Arrays;
import java.util.List;

/** All short rows of a few kinds of lines: what the document says of every row holds for each of them. */
public final class ShortRowsTest {
    private final Check check = new Check();

    public static void main(String[] args) {
        ShortRowsTest test = new ShortRowsTest();
        test.everyTwo(rowsOf(3, 4));
        test.everyTwo(rowsOf(2, 5));
        test.everyThree(rowsOf(3, 3));
        test.everyThree(rowsOf(2, 4));
        test.check.finish();
    }

    /** Every row of up to so many lines, each of so many kinds. */
    private static List<int[]> rowsOf(int kinds, int most) {
        List<int[]> rows = new ArrayList<>();
        rows.add(new int[0]);
        for (int k = 0; k < rows.size(); k++) {
            int[] row = rows.get(k);
            for (int kind = 0; kind < kinds && row.length < most; kind++) {
                int[] longer = Arrays.copyOf(row, row.length + 1);
                longer[row.length] = kind;
                rows.add(longer);
            }
        }
        return rows;
    }

    private void everyTwo(List<int[]> rows) {
        for (int[] a : rows) {
            for (int[] b : rows) {
                String name = Arrays.toString(a) + " " + Arrays.toString(b) + " ";
                Counted x = Check.filled(a, b);
                List<int[]> pairs = EveryWay.commonOf(a, b);
                check.same(name + "pairs", Check.asked(x.common(0, 1), 2, x::pair),
                        Check.asked(pairs.size(), 2, (k, side) -> pairs.get(k)[side]));
                check.same(name + "hunks", Check.asked(x.hunks(0, 1), 4, x::hunk), hunksOf(pairs, a, b));
                origins(name, x, pairs, b.length);
                whatMakesOneOfTheOther(name, x, b);
            }
        }
    }

    private static String hunksOf(List<int[]> pairs, int[] a, int[] b) {
        StringBuilder text = new StringBuilder();
        int fromA = 0;
        int fromB = 0;
        for (int k = 0; k <= pairs.size(); k++) {
            int endA = k < pairs.size() ? pairs.get(k)[0] : a.length;
            int endB = k < pairs.size() ? pairs.get(k)[1] : b.length;
            if (fromA != endA || fromB != endB) {
                text.append(text.length() == 0 ? "" : " ").append(fromA).append(',').append(endA - fromA);
                text.append(',').append(fromB).append(',').append(endB - fromB);
            }
            fromA = endA + 1;
            fromB = endB + 1;
        }
        return text.toString();
    }

    private void origins(String name, Counted x, List<int[]> pairs, int lines) {
        x.commit(0);
        x.commit(1);
        int[] due = new int[lines];
        Arrays.fill(due, 1);
        for (int[] pair : pairs) {
            due[pair[1]] = 0;
        }
        for (int k = 0; k < lines; k++) {
            check.same(name + "origin", x.origin(1, k), due[k]);
        }
    }

    /** Where only one side changed, or both did the same, that comes; what makes b of a makes b of a. */
    private void whatMakesOneOfTheOther(String name, Counted x, int[] b) {
        check.same(name + "patch", x.patch(0, 1, 0, 2), 0);
        check.lines(name + "patched", x, 2, b);
        check.same(name + "left changed", x.merge(0, 1, 0, 3), 0);
        check.lines(name + "left's", x, 3, b);
        check.same(name + "right changed", x.merge(0, 0, 1, 4), 0);
        check.lines(name + "right's", x, 4, b);
        check.same(name + "both changed alike", x.merge(0, 1, 1, 5), 0);
        check.lines(name + "both's", x, 5, b);
    }

    private void everyThree(List<int[]> rows) {
        PlainModel model = new PlainModel();
        for (int[] a : rows) {
            Check.fill(model, 0, a);
            for (int[] b : rows) {
                Check.fill(model, 1, b);
                for (int[] c : rows) {
                    Check.fill(model, 2, c);
                    String name = Arrays.toString(a) + " " + Arrays.toString(b) + " " + Arrays.toString(c) + " ";
                    Counted x = Check.filled(a, b, c);
                    check.same(name + "merge", merged(x), merged(model));
                    check.same(name + "patch", patched(x), patched(model));
                }
            }
        }
    }

    private static String merged(Face x) {
        return Check.asked(x.merge(0, 1, 2, 3), 3, x::conflict) + " " + Arrays.toString(Check.read(x, 3));
    }

    private static String patched(Face x) {
        return x.patch(0, 1, 2, 4) + " " + Arrays.toString(Check.read(x, 4));
    }
}
