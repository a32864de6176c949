/** A GridReckoner that is asked no more often than the document promises anything: 512 times. */
final class Grid {
    private static final int CALLS_MOST = 512;

    private final GridReckoner grid = new GridReckoner();
    private int calls;

    private GridReckoner asked() {
        calls++;
        if (calls > CALLS_MOST) {
            throw new AssertionError("a test asks one object more than " + CALLS_MOST + " times");
        }
        return grid;
    }

    /** How many calls it may still be asked. */
    int left() {
        return CALLS_MOST - calls;
    }

    int feed(int a, int b, int c, int d, int e) {
        return asked().feed(a, b, c, d, e);
    }

    int end(int n) {
        return asked().end(n);
    }

    int set(int r, int c) {
        return asked().set(r, c);
    }

    int area(int r, int c, int h, int w) {
        return asked().area(r, c, h, w);
    }

    int clear(int r, int c, int h, int w) {
        return asked().clear(r, c, h, w);
    }

    int copy(int r, int c, int h, int w, int tr, int tc) {
        return asked().copy(r, c, h, w, tr, tc);
    }

    int insert(boolean columns, int k, int n) {
        return asked().insert(columns, k, n);
    }

    int remove(boolean columns, int k, int n) {
        return asked().remove(columns, k, n);
    }

    int name() {
        return asked().name();
    }

    int kind(int r, int c) {
        return asked().kind(r, c);
    }

    long value(int r, int c) {
        return asked().value(r, c);
    }

    int show(int r, int c, boolean content) {
        return asked().show(r, c, content);
    }

    long word(int i) {
        return asked().word(i);
    }

    int count(int what) {
        return asked().count(what);
    }
}
