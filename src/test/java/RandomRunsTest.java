import java.util.Random;
import java.util.function.IntSupplier;

/** All promises: runs of up to 512 calls, always the same ones, compared with the plain model. */
public final class RandomRunsTest {
    private static final int RUNS = 1500;

    private final Check check = new Check();
    private final Random random;
    private final int kinds;
    private final Counted x = new Counted();
    private final PlainModel model = new PlainModel();

    private RandomRunsTest(int run) {
        random = new Random(run);
        kinds = new int[] {2, 3, 6, 20, 200}[run % 5];
    }

    public static void main(String[] args) {
        for (int run = 0; run < RUNS; run++) {
            new RandomRunsTest(run).run(run);
        }
        System.out.println(RUNS + " runs are as due");
    }

    private void run(int run) {
        // Every second run starts with rows that are near one another, as merged rows are.
        if (run % 2 == 0) {
            fillAlike(5 + random.nextInt(30));
        }
        for (int k = 0; x.hasCallsLeft(); k++) {
            call("run " + run + " step " + k);
        }
        check.finishQuietly();
    }

    private void fillAlike(int length) {
        for (int k = 0; k < length; k++) {
            int line = random.nextInt(kinds);
            for (int row = 0; row < 3; row++) {
                int changed = random.nextInt(6) == 0 ? random.nextInt(kinds) : line;
                check.same("put", x.put(row, changed), model.put(row, changed));
            }
        }
    }

    private int row() {
        return random.nextInt(60) == 0 ? random.nextInt(9) - 2 : random.nextInt(6);
    }

    private void call(String name) {
        int a = row();
        int b = row();
        int c = row();
        int d = row();
        int k = random.nextInt(8) == 0 ? random.nextInt(64) - 2 : random.nextInt(8) - 1;
        int what = random.nextInt(6) - 1;
        int line = random.nextInt(kinds);
        switch (random.nextInt(24)) {
            case 0: same(name + " size", () -> x.size(a), () -> model.size(a)); break;
            case 1: case 2: same(name + " get", () -> x.get(a, k), () -> model.get(a, k)); break;
            case 3: case 4: same(name + " common", () -> x.common(a, b), () -> model.common(a, b)); break;
            case 5: case 6: same(name + " pair", () -> x.pair(k, what), () -> model.pair(k, what)); break;
            case 7: same(name + " hunks", () -> x.hunks(a, b), () -> model.hunks(a, b)); break;
            case 8: case 9: same(name + " hunk", () -> x.hunk(k, what), () -> model.hunk(k, what)); break;
            case 10: case 11: same(name + " merge", () -> x.merge(a, b, c, d), () -> model.merge(a, b, c, d));
                sameRow(name + " merged", d); break;
            case 12: case 13: same(name + " conflict", () -> x.conflict(k, what), () -> model.conflict(k, what));
                break;
            case 14: case 15: same(name + " patch", () -> x.patch(a, b, c, d), () -> model.patch(a, b, c, d));
                sameRow(name + " patched", d); break;
            case 16: same(name + " commit", () -> x.commit(a), () -> model.commit(a)); break;
            case 17: case 18: int version = random.nextInt(10) - 1;
                same(name + " origin", () -> x.origin(version, k), () -> model.origin(version, k)); break;
            case 19: if (random.nextInt(4) == 0) {
                    same(name + " clear", () -> x.clear(a), () -> model.clear(a));
                }
                break;
            default: same(name + " put", () -> x.put(a, line), () -> model.put(a, line)); break;
        }
    }

    private void same(String name, IntSupplier got, IntSupplier due) {
        check.same(name, Check.answer(got), Check.answer(due));
    }

    /** Not always, as reading takes calls. */
    private void sameRow(String name, int row) {
        if (random.nextInt(3) != 0) {
            return;
        }
        int size = row < 0 || row > 5 ? 0 : model.size(row);
        for (int k = 0; k <= size && x.hasCallsLeft(); k++) {
            int place = k;
            same(name + " line", () -> x.get(row, place), () -> model.get(row, place));
        }
    }
}
