/** Promises 7 to 10, and 13 for the symbol. */
public final class SymbolTest {
    public static void main(String[] args) {
        shapes();
        rowsAndColumns();
        makingThrows();
        indicators();
        checks();
        blanks();
        places();
        counts();
        Expect.finish("SymbolTest");
    }

    private static void shapes() {
        StackedRows x = new StackedRows();
        Tools.tape(x, Tools.bytesOf("ABCDE"));
        Expect.equal("make(1, 3)", x.make(1, 3), 3);
        int[] row = Tools.rowOf(x);
        Expect.equal("length", row[0], 5);
        Expect.equal("filled", java.util.Arrays.copyOf(row, 5), 5, 1, 63, 149, 900);
        Expect.equal("make(1, 8)", x.make(1, 8), 3);
        Expect.equal("20 of length", java.util.Arrays.copyOf(Tools.rowOf(x), 6), 20, 1, 63, 149, 900, 900);
        Expect.equal("last of filling", Tools.rowOf(x)[19], 900);
        Expect.equal("make(1, 2): just full", x.make(1, 2), 4);
        Expect.equal("make(1, 1)", x.make(1, 1), 8);
        Expect.equal("no filling", java.util.Arrays.copyOf(Tools.rowOf(x), 4), 4, 1, 63, 149);
        Expect.equal("the tape stays", Tools.tapeOf(x), 65, 66, 67, 68, 69);
        x.end(0);
        Expect.equal("nothing, one column", x.make(0, 1), 3);
        Expect.equal("only checks", Tools.rowOf(x), 1, 917, 27);
    }

    private static void rowsAndColumns() {
        StackedRows x = new StackedRows();
        for (int columns = 1; columns <= 30; columns++) {
            for (int level = 0; level <= 8; level++) {
                Tools.tape(x, Tools.bytesOf("ABCDEFGHIJ"));
                int needed = 1 + 5 + (2 << level);
                int rows = Math.max(3, (needed + columns - 1) / columns);
                if (rows <= 90 && rows * columns <= 928) {
                    Expect.equal("make(" + level + ", " + columns + ")", x.make(level, columns), rows);
                    Expect.equal("count(1)", x.count(1), rows);
                    Expect.equal("count(2)", x.count(2), columns);
                    Expect.equal("solve", x.solve(), 10);
                } else {
                    int l = level;
                    int c = columns;
                    Expect.thrown("make(" + level + ", " + columns + ")", UnsupportedOperationException.class,
                            () -> x.make(l, c));
                }
            }
        }
    }

    private static void makingThrows() {
        StackedRows x = new StackedRows();
        int[][] wrong = {{-1, 1}, {9, 1}, {0, 0}, {0, 31}, {0, -1}, {9, 31}, {Integer.MAX_VALUE, 1}, {0, Integer.MIN_VALUE}};
        for (int[] w : wrong) {
            Expect.thrown("make(" + w[0] + ", " + w[1] + ")", IllegalArgumentException.class, () -> x.make(w[0], w[1]));
        }
        Expect.equal("no symbol behind", x.count(1), 0);
        Tools.tape(x, Tools.bytesOf("A".repeat(174)));
        Expect.equal("87 codewords, 90 rows", x.make(0, 1), 90);
        Tools.tape(x, Tools.bytesOf("B".repeat(175)));
        Expect.thrown("91 rows", UnsupportedOperationException.class, () -> x.make(0, 1));
        Expect.thrown("a wrong level first", IllegalArgumentException.class, () -> x.make(9, 1));
        Expect.equal("the symbol stays", x.count(1), 90);
        Expect.equal("its codewords stay", x.place(1, 1), 0);
        Tools.tape(x, Tools.bytesOf("A".repeat(1200)));
        Expect.equal("603 codewords in 30 columns", x.make(0, 30), 21);
        Expect.thrown("N above 928, not above 90 rows", UnsupportedOperationException.class, () -> x.make(8, 30));
        Expect.equal("the symbol stays then", x.count(1), 21);
        edgeOf928();
    }

    private static void edgeOf928() {
        StackedRows x = new StackedRows();
        Tools.tape(x, Tools.bytesOf("A".repeat(2 * (928 - 513))));
        Expect.equal("N = 928", x.make(8, 29), 32);
        Expect.equal("codewords of it", Tools.rowOf(x)[0], 416);
        Expect.thrown("31 rows of 30", UnsupportedOperationException.class, () -> x.make(8, 30));
        Expect.thrown("104 rows and more of 9", UnsupportedOperationException.class, () -> x.make(8, 9));
        Tools.tape(x, Tools.bytesOf("A".repeat(2 * (928 - 513) + 1)));
        Expect.thrown("N = 957", UnsupportedOperationException.class, () -> x.make(8, 29));
        Tools.tape(x, Tools.bytesOf("A".repeat(2 * (900 - 513))));
        Expect.equal("N = 900", x.make(8, 10), 90);
    }

    private static void indicators() {
        StackedRows x = new StackedRows();
        Tools.tape(x, Tools.bytesOf("A".repeat(400)));
        for (int level = 0; level <= 8; level++) {
            int rows = x.make(level, 12 + level);
            int a = (rows - 1) / 3;
            int b = 3 * level + (rows - 1) % 3;
            int c = 11 + level;
            for (int row = 0; row < rows; row++) {
                int[] left = {a, b, c};
                int[] right = {c, a, b};
                Expect.equal("left of " + row, x.place(row, 0), 30 * (row / 3) + left[row % 3]);
                Expect.equal("right of " + row, x.place(row, c + 2), 30 * (row / 3) + right[row % 3]);
            }
        }
    }

    private static void checks() {
        StackedRows x = new StackedRows();
        Tools.Dice dice = new Tools.Dice(11);
        for (int level = 0; level <= 8; level++) {
            int[] bytes = new int[3 + dice.below(60)];
            for (int i = 0; i < bytes.length; i++) {
                bytes[i] = dice.below(256);
            }
            Tools.tape(x, bytes);
            x.make(level, 14);
            int[] row = Tools.rowOf(x);
            for (int j = 1; j <= 2 << level; j++) {
                Expect.equal("level " + level + ", sum " + j, Tools.sum(row, j), 0);
            }
            int k = 2 << level;
            Expect.equal("length", row[0], row.length - k);
            Expect.equal("checks by division", row, Tools.withChecks(java.util.Arrays.copyOf(row, row.length - k), k));
        }
    }

    private static void blanks() {
        StackedRows x = new StackedRows();
        int[][] wrong = {{2, 1}, {91, 1}, {3, 0}, {3, 31}, {90, 11}, {31, 30}, {33, 29}, {-3, -4}, {65536, 65536}, {3, -1}};
        for (int[] w : wrong) {
            Expect.thrown("blank(" + w[0] + ", " + w[1] + ")", IllegalArgumentException.class, () -> x.blank(w[0], w[1]));
        }
        Expect.equal("no symbol behind", x.count(1), 0);
        int[][] right = {{3, 1}, {90, 1}, {3, 30}, {90, 10}, {30, 30}, {32, 29}, {58, 16}};
        for (int[] r : right) {
            x.make(0, 2);
            x.blank(r[0], r[1]);
            Expect.equal("rows", x.count(1), r[0]);
            Expect.equal("columns", x.count(2), r[1]);
            for (int row = 0; row < r[0]; row++) {
                for (int column = 0; column <= r[1] + 1; column++) {
                    Expect.equal("lost", x.place(row, column), StackedRows.LOST);
                }
            }
        }
        Expect.thrown("blank(2, 2)", IllegalArgumentException.class, () -> x.blank(2, 2));
        Expect.equal("the symbol stays", x.count(1), 58);
    }

    private static void places() {
        StackedRows x = new StackedRows();
        x.blank(4, 2);
        int[][] wrong = {{-1, 0}, {4, 0}, {0, -1}, {0, 4}, {Integer.MAX_VALUE, 0}, {0, Integer.MIN_VALUE}};
        for (int[] w : wrong) {
            Expect.thrown("place " + w[0] + ", " + w[1], IndexOutOfBoundsException.class, () -> x.place(w[0], w[1]));
            Expect.thrown("put " + w[0] + ", " + w[1], IndexOutOfBoundsException.class, () -> x.put(w[0], w[1], 5));
            Expect.thrown("put, no codeword either", IndexOutOfBoundsException.class, () -> x.put(w[0], w[1], 929));
        }
        int next = 0;
        for (int row = 0; row < 4; row++) {
            for (int column = 0; column < 4; column++) {
                x.put(row, column, next * 57);
                next++;
            }
        }
        for (int i = 0; i < 16; i++) {
            Expect.equal("place " + i, x.place(i / 4, i % 4), i * 57);
        }
        x.put(3, 3, 928);
        Expect.equal("928", x.place(3, 3), 928);
        int[] none = {929, -2, Integer.MAX_VALUE, Integer.MIN_VALUE};
        for (int n : none) {
            Expect.thrown("put " + n, IllegalArgumentException.class, () -> x.put(3, 3, n));
        }
        Expect.equal("a throw changes nothing", x.place(3, 3), 928);
        x.put(3, 3, StackedRows.LOST);
        Expect.equal("lost again", x.place(3, 3), StackedRows.LOST);
    }

    private static void counts() {
        StackedRows x = new StackedRows();
        Expect.thrown("count(3)", IllegalArgumentException.class, () -> x.count(3));
        Expect.thrown("count(-1)", IllegalArgumentException.class, () -> x.count(-1));
        x.blank(7, 9);
        x.feed(0, 0, 0, 0, 0);
        Expect.equal("bytes", x.count(0), 20);
        Expect.equal("rows", x.count(1), 7);
        Expect.equal("columns", x.count(2), 9);
    }
}
