/** The document's calls, so that the class and the plain model can be asked alike; clear answers 0. */
interface Face {
    int put(int row, int line);

    int clear(int row);

    int size(int row);

    int get(int row, int k);

    int common(int a, int b);

    int pair(int k, int side);

    int hunks(int a, int b);

    int hunk(int k, int what);

    int merge(int base, int left, int right, int to);

    int conflict(int k, int what);

    int patch(int a, int b, int c, int to);

    int commit(int row);

    int origin(int version, int k);
}
