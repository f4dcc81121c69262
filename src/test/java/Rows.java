/** An object of the program that counts its calls: what it answers behind the 512th is free, so no test may ask for it. */
final class Rows {
    static final int MOST_CALLS = 512;

    private final StackedRows made = new StackedRows();
    private int calls = 0;
    private int rows = 0;
    private int columns = 0;

    /** An Error, so that no test takes it for what the program throws. */
    private StackedRows called() {
        calls++;
        if (calls > MOST_CALLS) {
            throw new AssertionError("a test makes more than " + MOST_CALLS + " calls of one object");
        }
        return made;
    }

    int calls() {
        return calls;
    }

    /** What blank and make told, without a call. */
    int rows() {
        return rows;
    }

    int columns() {
        return columns;
    }

    int feed(int a, int b, int c, int d, int e) {
        return called().feed(a, b, c, d, e);
    }

    void end(int n) {
        called().end(n);
    }

    int byteAt(int k) {
        return called().byteAt(k);
    }

    int codewords() {
        return called().codewords();
    }

    int codeword(int k) {
        return called().codeword(k);
    }

    int make(int level, int newColumns) {
        rows = called().make(level, newColumns);
        columns = newColumns;
        return rows;
    }

    void blank(int newRows, int newColumns) {
        called().blank(newRows, newColumns);
        rows = newRows;
        columns = newColumns;
    }

    int place(int row, int column) {
        return called().place(row, column);
    }

    void put(int row, int column, int codeword) {
        called().put(row, column, codeword);
    }

    int solve() {
        return called().solve();
    }

    int solved(int what) {
        return called().solved(what);
    }

    int count(int what) {
        return called().count(what);
    }
}
