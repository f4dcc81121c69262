import java.util.Arrays;
import java.util.function.Supplier;

/** Promises 7 to 10, and 13 for the symbol: what they answer, on both sides of each limit. */
public final class SymbolTest {
    private static final int[][] SHAPES = {{3, 1}, {4, 1}, {90, 1}, {3, 30}, {30, 30}, {90, 10}, {32, 29}, {58, 16}};

    public static void main(String[] args) {
        lengthAndFilling();
        levels();
        numbersOfColumns();
        threeRowsAtLeast();
        fewestRows();
        mostRowsAndCodewords();
        wrongArgumentsFirst();
        anewEachTime();
        indicatorsOfRows();
        indicatorsOfColumnsAndLevels();
        checks();
        blankLimits();
        blankIsLost();
        placeLimits();
        putLimits();
        putChangesOnePlace();
        counts();
        Expect.finish("SymbolTest");
    }

    /** Text that is so many codewords. */
    private static String text(int codewords) {
        return "A".repeat(2 * codewords);
    }

    private static int[] dataOf(String text, int level, int columns) {
        int[] row = Tools.rowOf(() -> Tools.made(text, level, columns));
        return Arrays.copyOf(row, row.length - (2 << level));
    }

    /** "Codeword 0 is the LENGTH N - k; then come those of the bytes, then 900 as often as it takes to be N - k". */
    private static void lengthAndFilling() {
        Expect.equal("no filling", dataOf("ABCDE", 1, 1), 4, 1, 63, 149);
        Expect.equal("one of filling", dataOf("ABCDE", 1, 3), 5, 1, 63, 149, 900);
        Expect.equal("two of filling", dataOf("ABC", 1, 3), 5, 1, 89, 900, 900);
        int[] many = dataOf("ABCDE", 1, 8);
        Expect.equal("20 of length", Arrays.copyOf(many, 6), 20, 1, 63, 149, 900, 900);
        Expect.equal("20 in all", many.length, 20);
        Expect.equal("the last of filling", many[19], 900);
        Expect.equal("no bytes, no filling", dataOf("", 0, 1), 1);
        Expect.equal("no bytes, filling", dataOf("", 0, 2), 4, 900, 900, 900);
        Expect.equal("only the length and checks", Tools.rowOf(Tools.made("", 0, 1)), 1, 917, 27);
        Rows x = Tools.made("ABCDE", 1, 3);
        Expect.equal("the tape stays", Tools.tapeOf(x), 65, 66, 67, 68, 69);
    }

    /** "There is no such level": levels are 0 .. 8. */
    private static void levels() {
        for (int level = 0; level <= 8; level++) {
            int k = 2 << level;
            Expect.equal("level " + level, new Rows().make(level, 19), Math.max(3, (1 + k + 18) / 19));
            Expect.equal("k of level " + level, dataOf("", level, 19).length, Math.max(3, (1 + k + 18) / 19) * 19 - k);
        }
        for (int level : new int[] {-1, 9, 31, 32, -32, Integer.MIN_VALUE, Integer.MAX_VALUE}) {
            makeThrows(IllegalArgumentException.class, "", level, 19);
        }
    }

    /** "There is no such .. number of columns": columns are 1 .. 30. */
    private static void numbersOfColumns() {
        for (int columns = 1; columns <= 30; columns++) {
            Rows x = new Rows();
            Expect.equal(columns + " columns", x.make(0, columns), 3);
            Expect.equal("count(2)", x.count(2), columns);
        }
        for (int columns : new int[] {0, -1, 31, 32, 928, Integer.MIN_VALUE, Integer.MAX_VALUE}) {
            makeThrows(IllegalArgumentException.class, "", 0, columns);
        }
    }

    private static void makeThrows(Class<? extends RuntimeException> due, String text, int level, int columns) {
        Rows x = Tools.withTape(text);
        Expect.thrown("make(" + level + ", " + columns + ")", due, () -> x.make(level, columns));
        Expect.equal("no symbol behind it", x.count(1), 0);
        Expect.equal("the tape stays", x.count(0), text.length());
    }

    private static void made(int rows, int codewords, int level, int columns) {
        Rows x = Tools.withTape(text(codewords));
        String what = codewords + " codewords: make(" + level + ", " + columns + ")";
        Expect.equal(what, x.make(level, columns), rows);
        Expect.equal("count(1)", x.count(1), rows);
        Expect.equal("count(2)", x.count(2), columns);
        Expect.equal("length", x.place(0, 1), rows * columns - (2 << level));
    }

    /** "The fewest rows (3 at least)": two would do, three just do, three do not. */
    private static void threeRowsAtLeast() {
        for (int columns = 2; columns <= 30; columns++) {
            made(3, Math.max(0, columns - 3), 0, columns);
            made(3, Math.max(0, 2 * columns - 3), 0, columns);
            made(3, 3 * columns - 3, 0, columns);
            made(4, 3 * columns - 2, 0, columns);
        }
        made(3, 0, 0, 1);
        made(4, 1, 0, 1);
    }

    /** "With the fewest rows": just full, and one codeword more. */
    private static void fewestRows() {
        for (int columns = 1; columns <= 30; columns++) {
            for (int level = 0; level <= 5; level++) {
                int rows = Math.max(5, ((2 << level) + 1 + columns - 1) / columns);
                int codewords = rows * columns - (2 << level) - 1;
                if (rows < 90) {
                    made(rows, codewords, level, columns);
                    made(rows + 1, codewords + 1, level, columns);
                }
            }
        }
    }

    /** "There would be more than 90 rows, or N above 928". */
    private static void mostRowsAndCodewords() {
        for (int columns = 1; columns <= 30; columns++) {
            int rows = Math.min(90, 928 / columns);
            int level = rows * columns - 3 <= 600 ? 0 : 8;
            int codewords = rows * columns - 1 - (2 << level);
            made(rows, codewords, level, columns);
            makeThrows(UnsupportedOperationException.class, text(codewords + 1), level, columns);
        }
        made(90, 87, 0, 1);
        makeThrows(UnsupportedOperationException.class, text(88), 0, 1);
        made(90, 900 - 513, 8, 10);
        makeThrows(UnsupportedOperationException.class, text(901 - 513), 8, 10);
        made(32, 928 - 513, 8, 29);
        makeThrows(UnsupportedOperationException.class, text(929 - 513), 8, 29);
        made(58, 928 - 513, 8, 16);
        makeThrows(UnsupportedOperationException.class, text(929 - 513), 8, 16);
        made(30, 900 - 513, 8, 30);
        makeThrows(UnsupportedOperationException.class, text(901 - 513), 8, 30);
        makeThrows(UnsupportedOperationException.class, "", 6, 1);
        made(64 + 1, 0, 5, 1);
        makeThrows(UnsupportedOperationException.class, "", 8, 5);
        made(86, 0, 8, 6);
        Rows dear = Tools.withTape("a1a1a\u0080\u0081".repeat(171));
        Expect.isTrue("more codewords than any symbol has", dear.codewords() > 1300);
        Expect.thrown("make(0, 30)", UnsupportedOperationException.class, () -> dear.make(0, 30));
    }

    /** "The one named first when several would do". */
    private static void wrongArgumentsFirst() {
        makeThrows(IllegalArgumentException.class, text(600), 9, 1);
        makeThrows(IllegalArgumentException.class, text(600), -1, 1);
        makeThrows(IllegalArgumentException.class, text(600), 8, 0);
        makeThrows(IllegalArgumentException.class, text(600), 8, 31);
        makeThrows(IllegalArgumentException.class, text(600), 9, 31);
    }

    /** Nothing of an earlier symbol is left, whether it was greater or smaller. */
    private static void anewEachTime() {
        for (int[] shape : SHAPES) {
            Supplier<Rows> again = () -> {
                Rows x = Tools.withTape("ABCDEFGH");
                x.blank(shape[0], shape[1]);
                x.put(shape[0] - 1, shape[1] + 1, 7);
                x.put(2, 1, 7);
                x.make(1, 5);
                return x;
            };
            Expect.equal("made anew", Tools.placesOf(again), Tools.placesOf(() -> Tools.made("ABCDEFGH", 1, 5)));
        }
        Rows x = Tools.made("ABCDEFGH", 1, 5);
        x.end(0);
        Expect.equal("a symbol does not follow the tape", Tools.rowOf(x), Tools.rowOf(Tools.made("ABCDEFGH", 1, 5)));
    }

    private static void indicators(int rows, int codewords, int level, int columns) {
        Supplier<Rows> build = () -> Tools.made(text(codewords), level, columns);
        Expect.equal("rows", build.get().rows(), rows);
        int a = (rows - 1) / 3;
        int b = 3 * level + (rows - 1) % 3;
        int c = columns - 1;
        int[] due = new int[2 * rows];
        for (int row = 0; row < rows; row++) {
            int[] left = {a, b, c};
            int[] right = {c, a, b};
            due[2 * row] = 30 * (row / 3) + left[row % 3];
            due[2 * row + 1] = 30 * (row / 3) + right[row % 3];
        }
        int[] got = Tools.looks(build, 2 * rows, (x, i) -> x.place(i / 2, i % 2 == 0 ? 0 : columns + 1));
        Expect.equal("indicators of " + rows + " rows, level " + level + ", " + columns + " columns", got, due);
    }

    /** All numbers of rows, 3 and 90 among them: thirds and rests of each kind. */
    private static void indicatorsOfRows() {
        for (int rows = 3; rows <= 90; rows++) {
            indicators(rows, rows - 3, 0, 1);
        }
    }

    private static void indicatorsOfColumnsAndLevels() {
        for (int columns = 1; columns <= 30; columns++) {
            indicators(7, 7 * columns - 5, 1, columns);
        }
        for (int level = 0; level <= 8; level++) {
            for (int rows = 37; rows <= 39; rows++) {
                indicators(rows, Math.max(0, 14 * rows - 14 - (2 << level)), level, 14);
            }
        }
        Rows last = Tools.made(text(900 - 513), 8, 10);
        Expect.equal("the highest at the left", last.place(89, 0), 870 + 9);
        Expect.equal("the highest at the right", last.place(89, 11), 870 + 24 + 2);
    }

    /** "The sum is 0 modulo 929 for x = 3, 3^2, .., 3^k", the shortest and the longest rows among them. */
    private static void checks() {
        for (int level = 0; level <= 8; level++) {
            int columns = level < 6 ? 1 : 19;
            sumsAreZero("", level, columns);
            sumsAreZero("What was spoilt or lost, 12345678901234567890", level, 14);
            sumsAreZero("\u00ff\u00fe\u0080\u0081\u0082\u0083\u0084", level, 14);
        }
        sumsAreZero(text(928 - 513), 8, 29);
        sumsAreZero(text(90 - 3), 0, 1);
        sumsAreZero(text(600), 7, 10);
    }

    private static void sumsAreZero(String text, int level, int columns) {
        int k = 2 << level;
        int[] row = Tools.rowOf(() -> Tools.made(text, level, columns));
        for (int j = 1; j <= k; j++) {
            Expect.equal("level " + level + ", sum " + j, Tools.sum(row, j), 0);
        }
        Expect.equal("checks by division", row, Tools.withChecks(Arrays.copyOf(row, row.length - k), k));
        for (int codeword : row) {
            Expect.isTrue("a codeword", codeword >= 0 && codeword <= 928);
        }
    }

    /** "There is none such": 3 .. 90 rows, 1 .. 30 columns, N at most 928; all sizes up to beyond the limits. */
    private static void blankLimits() {
        for (int rows = -1; rows <= 92; rows++) {
            Rows x = new Rows();
            int[] there = {0, 0};
            for (int columns = -1; columns <= 32; columns++) {
                boolean right = rows >= 3 && rows <= 90 && columns >= 1 && columns <= 30 && rows * columns <= 928;
                int r = rows;
                int c = columns;
                if (right) {
                    x.blank(r, c);
                    there = new int[] {r, c};
                } else {
                    Expect.thrown("blank(" + r + ", " + c + ")", IllegalArgumentException.class, () -> x.blank(r, c));
                }
                Expect.equal("rows behind blank(" + r + ", " + c + ")", x.count(1), there[0]);
                Expect.equal("columns behind blank(" + r + ", " + c + ")", x.count(2), there[1]);
            }
        }
        Rows x = new Rows();
        int[][] far = {{65536, 65536}, {-3, -4}, {Integer.MAX_VALUE, 30}, {90, Integer.MAX_VALUE}, {Integer.MIN_VALUE, 1},
            {3, Integer.MIN_VALUE}, {65536 * 16385, 4}, {4, 65536 * 16385}};
        for (int[] f : far) {
            Expect.thrown("blank(" + f[0] + ", " + f[1] + ")", IllegalArgumentException.class, () -> x.blank(f[0], f[1]));
        }
        Expect.equal("no symbol behind", x.count(1), 0);
    }

    /** "A symbol of rows and columns of which all places are lost", also where another symbol was. */
    private static void blankIsLost() {
        for (int[] shape : SHAPES) {
            Supplier<Rows> blank = () -> {
                Rows x = Tools.made(text(300), 8, 28);
                x.blank(shape[0], shape[1]);
                return x;
            };
            for (int codeword : Tools.placesOf(blank)) {
                Expect.equal("lost", codeword, StackedRows.LOST);
            }
            Expect.equal("the tape stays", blank.get().count(0), 600);
        }
    }

    /** "No such place": rows 0 .. rows - 1, columns 0 .. columns + 1. */
    private static void placeLimits() {
        for (int[] shape : SHAPES) {
            Rows x = new Rows();
            x.blank(shape[0], shape[1]);
            int lastRow = shape[0] - 1;
            int lastColumn = shape[1] + 1;
            for (int[] there : new int[][] {{0, 0}, {0, lastColumn}, {lastRow, 0}, {lastRow, lastColumn}}) {
                Expect.equal("lost", x.place(there[0], there[1]), StackedRows.LOST);
                x.put(there[0], there[1], 900 - there[0]);
                Expect.equal("put", x.place(there[0], there[1]), 900 - there[0]);
            }
            int[][] none = {{-1, 0}, {lastRow + 1, 0}, {0, -1}, {0, lastColumn + 1}, {-1, lastColumn}, {-1, lastColumn + 1},
                {lastRow + 1, lastColumn}, {lastRow, lastColumn + 1}, {lastRow, -1}, {1, -lastColumn - 1},
                {Integer.MAX_VALUE, 0}, {0, Integer.MIN_VALUE}, {Integer.MIN_VALUE, 0}, {0, Integer.MAX_VALUE}};
            for (int[] n : none) {
                String where = n[0] + ", " + n[1];
                Expect.thrown("place " + where, IndexOutOfBoundsException.class, () -> x.place(n[0], n[1]));
                Expect.thrown("put " + where, IndexOutOfBoundsException.class, () -> x.put(n[0], n[1], 5));
                Expect.thrown("put lost " + where, IndexOutOfBoundsException.class, () -> x.put(n[0], n[1], -1));
                Expect.thrown("put, no codeword either", IndexOutOfBoundsException.class, () -> x.put(n[0], n[1], 929));
            }
        }
    }

    /** "No codeword": they are 0 .. 928, and LOST is -1. */
    private static void putLimits() {
        Rows x = new Rows();
        x.blank(3, 1);
        for (int column = 0; column <= 2; column++) {
            for (int codeword : new int[] {0, 1, 899, 900, 927, 928, -1, 928}) {
                x.put(2, column, codeword);
                Expect.equal("put " + codeword, x.place(2, column), codeword);
            }
            int c = column;
            for (int none : new int[] {929, -2, 930, Integer.MAX_VALUE, Integer.MIN_VALUE}) {
                Expect.thrown("put " + none, IllegalArgumentException.class, () -> x.put(2, c, none));
                Expect.equal("it stays", x.place(2, column), 928);
            }
        }
    }

    private static void putChangesOnePlace() {
        for (int i = 0; i < 20; i++) {
            Rows x = Tools.made("ABCDEF", 1, 2);
            Expect.equal("places", x.rows() * 4, 16);
            int at = i % 16;
            int[] due = Tools.placesOf(() -> Tools.made("ABCDEF", 1, 2));
            due[at] = i < 16 ? 555 : StackedRows.LOST;
            x.put(at / 4, at % 4, due[at]);
            for (int p = 0; p < 16; p++) {
                Expect.equal("place " + p, x.place(p / 4, p % 4), due[p]);
            }
        }
    }

    /** "0 bytes on the tape, 1 rows, 2 columns (0 without a symbol)"; "what is none of these". */
    private static void counts() {
        Rows x = new Rows();
        for (int what = 0; what <= 2; what++) {
            Expect.equal("count(" + what + ") of a new object", x.count(what), 0);
        }
        for (int what : new int[] {-1, 3, Integer.MIN_VALUE, Integer.MAX_VALUE}) {
            Expect.thrown("count(" + what + ")", IllegalArgumentException.class, () -> x.count(what));
        }
        x.feed(0, 0, 0, 0, 0);
        Expect.equal("a tape is no symbol", x.count(1) + x.count(2), 0);
        x.blank(7, 9);
        Expect.equal("bytes", x.count(0), 20);
        Expect.equal("rows", x.count(1), 7);
        Expect.equal("columns", x.count(2), 9);
        for (int what : new int[] {-1, 3}) {
            Expect.thrown("count(" + what + ")", IllegalArgumentException.class, () -> x.count(what));
        }
    }
}
