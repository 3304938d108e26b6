import java.util.ArrayList;
import java.util.List;

/** The COMMON of short rows by the document's words alone: every way to pair them, and of these the one it names. */
final class EveryWay {
    private final int[] a;
    private final int[] b;
    private final List<int[]> way = new ArrayList<>();
    private List<int[]> best = new ArrayList<>();

    private EveryWay(int[] a, int[] b) {
        this.a = a;
        this.b = b;
    }

    static List<int[]> commonOf(int[] a, int[] b) {
        EveryWay every = new EveryWay(a, b);
        every.goOn(0, 0);
        return every.best;
    }

    private void goOn(int fromA, int fromB) {
        if (isBetter()) {
            best = new ArrayList<>(way);
        }
        for (int i = fromA; i < a.length; i++) {
            for (int j = fromB; j < b.length; j++) {
                if (a[i] == b[j]) {
                    way.add(new int[] {i, j});
                    goOn(i + 1, j + 1);
                    way.remove(way.size() - 1);
                }
            }
        }
    }

    private boolean isBetter() {
        if (way.size() != best.size()) {
            return way.size() > best.size();
        }
        for (int side = 0; side < 2; side++) {
            for (int k = 0; k < way.size(); k++) {
                if (way.get(k)[side] != best.get(k)[side]) {
                    return way.get(k)[side] < best.get(k)[side];
                }
            }
        }
        return false;
    }
}
