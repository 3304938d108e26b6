import java.util.Arrays;
import java.util.function.IntSupplier;

/** What the tests share: answers compared with those that are due, and rows filled and read. */
final class Check {
    static final Class<? extends RuntimeException> NO_ARGUMENT = IllegalArgumentException.class;
    static final Class<? extends RuntimeException> NO_INDEX = IndexOutOfBoundsException.class;
    static final Class<? extends RuntimeException> NO_ROOM = UnsupportedOperationException.class;

    private int wrong = 0;
    private int checked = 0;

    void same(String what, Object got, Object due) {
        checked++;
        if (!got.equals(due)) {
            wrong++;
            System.out.println(what + ": " + got + ", due is " + due);
        }
    }

    /** The exception's very class counts, not one below it. */
    void refused(String what, Class<? extends RuntimeException> due, IntSupplier call) {
        same(what, answer(call), due.getSimpleName());
    }

    /** What was done on an object before the call that is looked at. */
    interface Past {
        void on(Face x);
    }

    interface Call {
        int on(Face x);
    }

    /** The call throws, and the object tells what one with the same past but without the call tells. */
    void refusedUnchanged(String what, Class<? extends RuntimeException> due, Past past, Call call) {
        Counted with = new Counted();
        Counted without = new Counted();
        past.on(with);
        past.on(without);
        refused(what, due, () -> call.on(with));
        same(what + ", and nothing has changed", Told.of(with), Told.of(without));
    }

    void lines(String what, Face x, int row, int... due) {
        same(what, Arrays.toString(read(x, row)), Arrays.toString(due));
    }

    void finish() {
        System.out.println(checked + " checked, " + wrong + " wrong");
        if (wrong != 0) {
            System.exit(1);
        }
    }

    void finishQuietly() {
        if (wrong != 0) {
            System.exit(1);
        }
    }

    static String answer(IntSupplier call) {
        try {
            return String.valueOf(call.getAsInt());
        } catch (RuntimeException e) {
            return e.getClass().getSimpleName();
        }
    }

    static void fill(Face x, int row, int... lines) {
        x.clear(row);
        for (int line : lines) {
            x.put(row, line);
        }
    }

    static int[] row(int... lines) {
        return lines;
    }

    /** A new object whose rows 0, 1, .. have these lines. */
    static Counted filled(int[]... rows) {
        Counted x = new Counted();
        for (int row = 0; row < rows.length; row++) {
            fill(x, row, rows[row]);
        }
        return x;
    }

    static int[] read(Face x, int row) {
        int[] lines = new int[x.size(row)];
        for (int k = 0; k < lines.length; k++) {
            lines[k] = x.get(row, k);
        }
        return lines;
    }

    /** Lines first, first + 1, .. */
    static int[] rising(int first, int count) {
        int[] lines = new int[count];
        for (int k = 0; k < count; k++) {
            lines[k] = first + k;
        }
        return lines;
    }

    /** What a conflict, a hunk or a pair answers, all of it. */
    interface Asked {
        int at(int k, int what);
    }

    static String asked(int count, int width, Asked asked) {
        StringBuilder text = new StringBuilder();
        for (int k = 0; k < count; k++) {
            for (int what = 0; what < width; what++) {
                text.append(what == 0 ? (k == 0 ? "" : " ") : ",").append(asked.at(k, what));
            }
        }
        return text.toString();
    }
}
