import java.util.Arrays;

/** All that an object answers, as one text: two objects with the same past tell the same. */
final class Told {
    private final Face x;
    private final StringBuilder text = new StringBuilder();

    private Told(Face x) {
        this.x = x;
    }

    static String of(Face x) {
        Told told = new Told(x);
        told.whatCanBeAsked();
        told.whatShowsLater();
        return told.text.toString();
    }

    private void whatCanBeAsked() {
        for (int row = 0; row < 6; row++) {
            row(row);
        }
        cells("pairs", 2, x::pair);
        cells("hunks", 4, x::hunk);
        cells("conflicts", 3, x::conflict);
        boolean more = true;
        for (int version = 0; more; version++) {
            more = origins(version);
        }
    }

    /** The lines of the newest version can't be asked for, but the next one's origins tell of them. */
    private void whatShowsLater() {
        String version = Check.answer(() -> x.commit(0));
        add("commit", version);
        if (isNumber(version)) {
            origins(Integer.parseInt(version));
        }
        add("patch", Check.answer(() -> x.patch(0, 1, 2, 5)));
        row(5);
        add("merge", Check.answer(() -> x.merge(0, 1, 2, 5)));
        cells("conflicts", 3, x::conflict);
        add("hunks", Check.answer(() -> x.hunks(0, 1)));
        add("common", Check.answer(() -> x.common(0, 1)));
    }

    private void add(String what, String told) {
        text.append(what).append(' ').append(told).append('\n');
    }

    private void row(int row) {
        add("row " + row, Arrays.toString(Check.read(x, row)));
    }

    private void cells(String what, int width, Check.Asked asked) {
        StringBuilder found = new StringBuilder();
        String first = Check.answer(() -> asked.at(0, 0));
        for (int k = 0; isNumber(first); k++) {
            int here = k;
            found.append(k == 0 ? "" : " ").append(first);
            for (int w = 1; w < width; w++) {
                int cell = w;
                found.append(',').append(Check.answer(() -> asked.at(here, cell)));
            }
            first = Check.answer(() -> asked.at(here + 1, 0));
        }
        add(what, found + " " + first);
    }

    private boolean origins(int version) {
        StringBuilder found = new StringBuilder();
        String origin = Check.answer(() -> x.origin(version, 0));
        for (int k = 1; isNumber(origin); k++) {
            int here = k;
            found.append(origin).append(' ');
            origin = Check.answer(() -> x.origin(version, here));
        }
        add("origins of " + version, found + origin);
        return origin.equals(Check.NO_INDEX.getSimpleName());
    }

    private static boolean isNumber(String answer) {
        return !answer.endsWith("Exception");
    }
}
