import java.util.Arrays;

/** Promises 11 and 12 up to fault 4: indicators, and what is spoilt or lost, on both sides of each limit. */
public final class SolvingTest {
    private static final String TEXT = "What was spoilt or lost 1234567890123456";

    public static void main(String[] args) {
        withoutFault();
        noIndicators();
        belongingToTheirRow();
        onceIsEnough();
        votes();
        otherRows();
        otherColumns();
        levelAboveEight();
        checksBelowN();
        mending();
        allPairsOfLowLevels();
        mostLost();
        longestRow();
        anyPlace();
        manyRandom();
        twoChecks();
        zeros();
        length();
        countsOfWrongOnes();
        faultsInOrder();
        latest();
        Expect.finish("SolvingTest");
    }

    private static void answers(String what, Rows x, int due, int... solved) {
        Expect.equal(what + ": solve()", x.solve(), due);
        Expect.equal(what + ": solved", Tools.solvedOf(x), solved);
    }

    private static void withoutFault() {
        Rows x = Tools.made("Hello, World", 2, 4);
        int[] row = Tools.rowOf(x);
        x.end(0);
        x.feed(1, 2, 3, 4, 5);
        answers("plain", x, 12, 0, 0, 0, 2);
        Expect.equal("its bytes", Tools.tapeOf(x), Tools.bytesOf("Hello, World"));
        Expect.equal("the symbol stays", Tools.rowOf(x), row);
        Rows none = Tools.made("", 0, 1);
        none.feed(1, 2, 3, 4, 5);
        answers("of no bytes", none, 0, 0, 0, 0, 0);
        Expect.equal("no bytes", none.count(0), 0);
    }

    /** "FAULT 1: none is there for one of these": a, b and c, one at a time; the tape and the symbol stay. */
    private static void noIndicators() {
        Rows x = new Rows();
        x.feed(1, 2, 3, 4, 5);
        x.blank(3, 1);
        answers("blank", x, -1, 1, 0, 0, 0);
        Expect.equal("the tape stays", x.count(0), 20);
        for (int i = 0; i < 9; i++) {
            Expect.equal("the symbol stays", x.place(i / 3, i % 3), StackedRows.LOST);
        }
        for (int kind = 0; kind < 3; kind++) {
            Rows y = Tools.made("ABCDEF", 1, 2);
            for (int row = 0; row < y.rows(); row++) {
                if (row % 3 == kind) {
                    y.put(row, 0, StackedRows.LOST);
                }
                if ((row + 2) % 3 == kind) {
                    y.put(row, 3, 30 * (row / 3) + 30);
                }
            }
            answers("none of kind " + kind, y, -1, 1, 0, 0, 0);
            Expect.equal("the tape stays", Tools.tapeOf(y), Tools.bytesOf("ABCDEF"));
        }
    }

    /** A blank symbol, of which the three kinds are told at one place each: with all codewords lost, it is fault 3 then. */
    private static Rows toldOnce(int rows, int columns, int level, int third) {
        Rows x = new Rows();
        x.blank(rows, columns);
        x.put(3 * third, 0, 30 * third + (rows - 1) / 3);
        x.put(3 * third + 1, 0, 30 * third + 3 * level + (rows - 1) % 3);
        x.put(3 * third + 2, 0, 30 * third + columns - 1);
        return x;
    }

    /** "Belong to their row (30 times its third, and 0 .. 29)": just below, the first, the last, just above. */
    private static void belongingToTheirRow() {
        for (int third = 0; third < 30; third++) {
            for (int kind = 0; kind < 3; kind++) {
                Rows x = toldOnce(90, 10, 1, third);
                answers("third " + third, x, -1, 3, 0, 0, 1);
                x.put(3 * third + kind, 0, 30 * third - 1);
                answers("just below, kind " + kind, x, -1, 1, 0, 0, 0);
                x.put(3 * third + kind, 0, 30 * third);
                answers("the first, kind " + kind, x, -1, 2, 0, 0, kind == 1 ? 0 : 1);
                x.put(3 * third + kind, 0, 30 * third + 29);
                answers("the last, kind " + kind, x, -1, kind == 0 ? 3 : 2, 0, 0, kind == 1 ? 9 : 1);
                x.put(3 * third + kind, 0, 30 * third + 30);
                answers("just above, kind " + kind, x, -1, 1, 0, 0, 0);
                x.put(3 * third + kind, 0, 928);
                answers("far above, kind " + kind, x, -1, 1, 0, 0, 0);
            }
        }
    }

    /** Every place alone can tell its kind: at the left a, b, c, at the right c, a, b. */
    private static void onceIsEnough() {
        for (int row = 0; row < 90; row++) {
            for (int side = 0; side < 2; side++) {
                int kind = side == 0 ? row % 3 : (row + 2) % 3;
                int third = row / 3 == 7 ? 8 : 7;
                Rows x = toldOnce(90, 10, 1, third);
                int number = x.place(3 * third + kind, 0) - 30 * third;
                x.put(3 * third + kind, 0, StackedRows.LOST);
                answers("not told", x, -1, 1, 0, 0, 0);
                x.put(row, side * 11, 30 * (row / 3) + number);
                answers("told in row " + row + ", side " + side, x, -1, 3, 0, 0, 1);
            }
        }
    }

    /** "The number told most often (of several the least) counts": all shares of eight places, for each kind. */
    private static void votes() {
        for (int kind = 0; kind < 3; kind++) {
            for (int right = 0; right <= 8; right++) {
                for (int below = 0; right + below <= 8; below++) {
                    for (int above = 0; right + below + above <= 8; above++) {
                        vote(kind, right, below, above);
                    }
                }
            }
        }
    }

    private static void vote(int kind, int right, int below, int above) {
        int[] numbers = {3, 3 * 2 + 2, 4};
        Rows x = new Rows();
        x.blank(12, 5);
        Tools.putIndicators(x, 2);
        int told = 0;
        for (int row = 0; row < 12; row++) {
            for (int side = 0; side < 2; side++) {
                if ((side == 0 ? row % 3 : (row + 2) % 3) != kind) {
                    continue;
                }
                int number = numbers[kind] + (told < right ? 0 : told < right + below ? -1 : 1);
                x.put(row, 6 * side, told < right + below + above ? 30 * (row / 3) + number : StackedRows.LOST);
                told++;
            }
        }
        String what = "kind " + kind + ": " + right + " right, " + below + " below, " + above + " above";
        if (right + below + above == 0) {
            answers(what, x, -1, 1, 0, 0, 0);
        } else if (right > below && right >= above) {
            answers(what, x, -1, 3, 0, 0, 2);
        } else {
            answers(what, x, -1, 2, 0, 0, kind == 1 && above > below ? 3 : 2);
        }
    }

    /** "Rows .. told so are not those that there are": every number of rows near those, told by a and b. */
    private static void otherRows() {
        for (int rows : new int[] {3, 4, 5, 6, 7, 88, 89, 90}) {
            for (int told = Math.max(1, rows - 4); told <= Math.min(90, rows + 4); told++) {
                Rows x = new Rows();
                x.blank(rows, 3);
                x.put(0, 0, (told - 1) / 3);
                x.put(1, 0, 3 * 1 + (told - 1) % 3);
                x.put(2, 0, 2);
                answers(rows + " rows, told " + told, x, -1, told == rows ? 3 : 2, 0, 0, 1);
            }
        }
    }

    /** "Columns told so are not those that there are". */
    private static void otherColumns() {
        for (int columns = 1; columns <= 30; columns++) {
            for (int told = 1; told <= 30; told++) {
                Rows x = toldOnce(5, columns, 0, 0);
                x.put(2, 0, told - 1);
                answers(columns + " columns, told " + told, x, -1, told == columns ? 3 : 2, 0, 0, 0);
            }
        }
        Rows x = Tools.made("ABCDE", 1, 3);
        x.put(0, 4, 3);
        x.put(2, 0, 3);
        answers("other columns", x, -1, 2, 0, 0, 1);
        Expect.equal("the tape stays", x.count(0), 5);
    }

    /** "Or the level is above 8"; the level is the one that was told, whatever it is. */
    private static void levelAboveEight() {
        for (int rows = 88; rows <= 90; rows++) {
            for (int level = 0; level <= 9; level++) {
                answers("level " + level, toldOnce(rows, 10, level, 0), -1, level > 8 ? 2 : 3, 0, 0, level);
            }
        }
    }

    /** "Or k is not below N": N is k, one below it, and one above (or as near as a symbol can have). */
    private static void checksBelowN() {
        int[][] equal = {{4, 1}, {4, 2}, {4, 4}, {8, 4}, {16, 4}, {16, 8}, {16, 16}, {32, 16}};
        int[][] below = {{3, 1}, {7, 1}, {5, 3}, {31, 1}, {21, 3}, {21, 6}, {51, 5}, {73, 7}};
        int[][] above = {{5, 1}, {3, 3}, {17, 1}, {11, 3}, {13, 5}, {43, 3}, {43, 6}, {27, 19}};
        for (int i = 0; i < 8; i++) {
            int level = i + 1;
            answers("N is k", toldOnce(equal[i][0], equal[i][1], level, 0), -1, 2, 0, 0, level);
            answers("N is below k", toldOnce(below[i][0], below[i][1], level, 0), -1, 2, 0, 0, level);
            answers("N is above k", toldOnce(above[i][0], above[i][1], level, 0), -1, 3, 0, 0, level);
            Rows x = new Rows();
            x.make(level, above[i][1]);
            Expect.equal("the smallest symbol of level " + level, x.rows(), above[i][0]);
            answers("it is solved", x, 0, 0, 0, 0, level);
        }
        answers("level 0 in three rows", toldOnce(3, 1, 0, 0), -1, 3, 0, 0, 0);
    }

    /** The row that the codewords are of is told, so that each one costs a single call. */
    private static void spoil(Rows x, int[] row, int t, int s, Tools.Dice dice) {
        int[] order = new int[row.length];
        for (int i = 0; i < row.length; i++) {
            int j = dice.below(i + 1);
            order[i] = order[j];
            order[j] = i;
        }
        for (int i = 0; i < t; i++) {
            Tools.putCodeword(x, order[i], (row[order[i]] + 1 + dice.below(928)) % 929);
        }
        for (int i = t; i < t + s; i++) {
            Tools.putCodeword(x, order[i], StackedRows.LOST);
        }
    }

    private static void spoilt(int level, int columns, int t, int s, Tools.Dice dice) {
        int k = 2 << level;
        String what = "level " + level + ", t " + t + ", s " + s;
        Rows x = Tools.made(TEXT, level, columns);
        spoil(x, Tools.rowOf(() -> Tools.made(TEXT, level, columns)), t, s, dice);
        if (2 * t + s <= k - 2) {
            answers(what, x, 40, 0, 0, t, level);
            Expect.equal(what, Tools.tapeOf(x), Tools.bytesOf(TEXT));
        } else {
            // With 2 t + s at most k, no other row can be near enough either.
            answers(what, x, -1, 3, 0, 0, level);
            Expect.equal("the tape stays", x.count(0), 40);
        }
    }

    /** "With 2 t + s at most k - 2": that, one more and two more, from all lost to all wrong. */
    private static void mending() {
        Tools.Dice dice = new Tools.Dice(5);
        for (int level = 0; level <= 8; level++) {
            int k = 2 << level;
            for (int sum = Math.max(0, k - 4); sum <= k; sum++) {
                // All lost at level 8 takes too many calls here; mostLost() has it.
                for (int part = level < 8 ? 0 : 1; part <= 4; part++) {
                    int t = sum / 2 * part / 4;
                    spoilt(level, 14, t, sum - 2 * t, dice);
                }
            }
        }
        for (int s = 255; s <= 258; s++) {
            spoilt(8, 29, 127, s, dice);
        }
    }

    private static void allPairsOfLowLevels() {
        Tools.Dice dice = new Tools.Dice(6);
        for (int level = 0; level <= 4; level++) {
            int k = 2 << level;
            for (int t = 0; 2 * t <= k; t++) {
                for (int s = 0; 2 * t + s <= k; s++) {
                    spoilt(level, 1 + dice.below(30), t, s, dice);
                }
            }
        }
    }

    /** So many codewords that nearly all of them are checks, and only k - 2 of these are lost: put one by one. */
    private static void mostLost() {
        for (int level = 1; level <= 8; level++) {
            int k = 2 << level;
            int columns = level < 6 ? 1 : 19;
            int rows = (k + columns) / columns;
            int[] data = new int[rows * columns - k];
            Arrays.fill(data, 900);
            data[0] = data.length;
            int[] row = Tools.withChecks(data, k);
            for (int lost = k - 3; lost <= k + 1; lost++) {
                Rows x = toldOnce(rows, columns, level, 0);
                for (int i = 0; i < row.length - lost; i++) {
                    Tools.putCodeword(x, row.length - 1 - i, row[row.length - 1 - i]);
                }
                answers("level " + level + ", lost " + lost, x, lost <= k - 2 ? 0 : -1, lost <= k - 2 ? 0 : 3, 0, 0, level);
            }
        }
    }

    /** The longest row with the most checks, where one wrong codeword takes the room of two lost ones. */
    private static void longestRow() {
        int[] data = new int[416];
        data[0] = 416;
        int[] row = Tools.withChecks(data, 512);
        for (int lost = 507; lost <= 512; lost++) {
            for (int wrong = 0; wrong <= 1; wrong++) {
                Rows x = toldOnce(32, 29, 8, 0);
                for (int i = lost; i < 928; i++) {
                    Tools.putCodeword(x, i, i == 927 ? (row[i] + wrong) % 929 : row[i]);
                }
                boolean found = 2 * wrong + lost <= 510;
                answers("lost " + lost + ", wrong " + wrong, x, found ? 830 : -1, found ? 0 : 3, 0, found ? wrong : 0, 8);
                Expect.equal("bytes", x.count(0), found ? 830 : 0);
            }
        }
    }

    /** One lost or wrong codeword is found at each place, the length and the last check among them. */
    private static void anyPlace() {
        for (int i = 0; i < 33; i++) {
            Rows x = Tools.made("ABCDEFGHIJ", 1, 11);
            Tools.putCodeword(x, i, StackedRows.LOST);
            answers("lost " + i, x, 10, 0, 0, 0, 1);
            x = Tools.made("ABCDEFGHIJ", 1, 11);
            Tools.putCodeword(x, i, (Tools.codewordAt(x, i) + 928) % 929);
            answers("wrong " + i, x, 10, 0, 0, 1, 1);
            Tools.putCodeword(x, (i + 1) % 33, StackedRows.LOST);
            answers("wrong " + i + ", and one lost", x, -1, 3, 0, 0, 1);
        }
    }

    /** Far from every row, or as near to one as may be: the answer is told by the row that is found. */
    private static void manyRandom() {
        Tools.Dice dice = new Tools.Dice(7);
        for (int round = 0; round < 400; round++) {
            int level = dice.below(5);
            int columns = 1 + dice.below(12);
            Rows x = Tools.made("ABCDEFGHIJ", level, columns);
            int n = x.rows() * columns;
            int k = 2 << level;
            int t = dice.below(Math.min(k, n / 2));
            int s = dice.below(Math.min(k, n - t));
            spoil(x, Tools.rowOf(() -> Tools.made("ABCDEFGHIJ", level, columns)), t, s, dice);
            boolean found = 2 * t + s <= k - 2;
            int answer = x.solve();
            if (found) {
                Expect.equal("found, t " + t + ", s " + s, answer, 10);
                Expect.equal("wrong ones", x.solved(2), t);
            } else if (answer != StackedRows.NONE || x.solved(0) != 3) {
                Expect.isTrue("another row, near enough", 2 * x.solved(2) + s <= k - 2 && t + s + x.solved(2) > k);
            }
        }
    }

    /** "FAULT 3 else (for k = 2: also if s is above 0)". */
    private static void twoChecks() {
        answers("k = 2, none", Tools.made("ABCDEFGH", 0, 3), 8, 0, 0, 0, 0);
        for (int i = 0; i < 9; i++) {
            Rows x = Tools.made("ABCDEFGH", 0, 3);
            int was = Tools.codewordAt(x, i);
            Tools.putCodeword(x, i, StackedRows.LOST);
            answers("k = 2, lost " + i, x, -1, 3, 0, 0, 0);
            Tools.putCodeword(x, (i + 1) % 9, StackedRows.LOST);
            answers("k = 2, two lost", x, -1, 3, 0, 0, 0);
            x = Tools.made("ABCDEFGH", 0, 3);
            Tools.putCodeword(x, i, was == 0 ? 1 : 0);
            answers("k = 2, wrong " + i, x, -1, 3, 0, 0, 0);
            Tools.putCodeword(x, i, was);
            answers("k = 2, right again", x, 8, 0, 0, 0, 0);
        }
    }

    /** A row of zeros has all sums 0; lost ones that should be 0 are still lost ones. */
    private static void zeros() {
        Rows x = new Rows();
        Tools.handRow(x, 2, 3, 0, 0, 0, 0);
        answers("zeros", x, -1, 4, 0, 0, 2);
        for (int s = 1; s <= 9; s++) {
            Tools.putCodeword(x, s, StackedRows.LOST);
            answers("zeros, lost " + s, x, -1, s <= 6 ? 4 : 3, 0, 0, 2);
        }
        x = new Rows();
        Tools.handRow(x, 0, 1, 0);
        answers("three zeros", x, -1, 4, 0, 0, 0);
        Tools.putCodeword(x, 1, StackedRows.LOST);
        answers("three zeros, one lost", x, -1, 3, 0, 0, 0);
    }

    /** "FAULT 4: its first codeword is not N - k". */
    private static void length() {
        for (int length = 0; length <= 928; length += length < 12 || length > 920 ? 1 : 101) {
            Rows x = Tools.withTape(7, 7, 7);
            Tools.handRow(x, 1, 3, length, 1, 63, 149, 900);
            answers("length " + length, x, length == 5 ? 5 : -1, length == 5 ? 0 : 4, 0, 0, 1);
            Expect.equal("the tape", x.count(0), length == 5 ? 5 : 3);
        }
        Rows x = new Rows();
        Tools.handRow(x, 1, 3, 4, 1, 63, 149, 900);
        Tools.putCodeword(x, 0, 5);
        answers("mended to a wrong length", x, -1, 4, 0, 1, 1);
        Tools.handRow(x, 1, 3, 5, 1, 63, 149, 900);
        Tools.putCodeword(x, 0, 4);
        answers("mended to the right length", x, 5, 0, 0, 1, 1);
        Tools.putCodeword(x, 0, StackedRows.LOST);
        answers("the length lost", x, 5, 0, 0, 0, 1);
    }

    /** "How many codewords .. were not what they should be, lost ones without (0 with faults 1 to 3)". */
    private static void countsOfWrongOnes() {
        Rows x = Tools.made(TEXT, 3, 5);
        int was = Tools.codewordAt(x, 3);
        Tools.putCodeword(x, 3, was);
        Tools.putCodeword(x, 5, StackedRows.LOST);
        x.put(1, 0, 700);
        answers("none: the same again, one lost, an indicator", x, 40, 0, 0, 0, 3);
        Tools.putCodeword(x, 3, (was + 1) % 929);
        Tools.putCodeword(x, 9, (Tools.codewordAt(x, 9) + 1) % 929);
        answers("two", x, 40, 0, 0, 2, 3);
        Tools.putCodeword(x, 9, StackedRows.LOST);
        answers("one, two lost", x, 40, 0, 0, 1, 3);
        Tools.handRow(x, 2, 3, 7, 1, 63, 903);
        Tools.putCodeword(x, 2, 5);
        answers("fault 4 with one wrong", x, -1, 4, 0, 1, 2);
        Tools.handRow(x, 2, 3, 4, 1, 63, 903);
        Tools.putCodeword(x, 2, 5);
        Tools.putCodeword(x, 1, 5);
        Tools.putCodeword(x, 3, StackedRows.LOST);
        answers("fault 5 with two wrong", x, -1, 5, 3, 2, 2);
        Tools.putCodeword(x, 4, StackedRows.LOST);
        Tools.putCodeword(x, 5, StackedRows.LOST);
        answers("fault 3 with two wrong", x, -1, 3, 0, 0, 2);
    }

    /** A symbol with all faults at once, of which the first is taken away each time. */
    private static void faultsInOrder() {
        Rows x = new Rows();
        Tools.handRow(x, 1, 3, 6, 903, 1, 1, 1);
        int length = Tools.codewordAt(x, 0);
        Tools.putCodeword(x, 1, 77);
        Tools.putCodeword(x, 2, 77);
        x.put(0, 0, 5);
        x.put(1, 4, 5);
        x.put(1, 0, StackedRows.LOST);
        x.put(2, 4, StackedRows.LOST);
        answers("no b, another a", x, -1, 1, 0, 0, 0);
        x.put(1, 0, 5);
        answers("another a, two wrong", x, -1, 2, 0, 0, 1);
        x.put(0, 0, 0);
        answers("two wrong, the length wrong", x, -1, 3, 0, 0, 1);
        Tools.putCodeword(x, 2, 1);
        answers("the length wrong, no such codeword", x, -1, 4, 0, 1, 1);
        Expect.equal("length", length, 6);
        Tools.handRow(x, 1, 3, 5, 903, 1, 1, 1);
        answers("no such codeword", x, -1, 5, 1, 0, 1);
        Tools.handRow(x, 1, 3, 5, 902, 1, 900, 1);
        answers("no fault", x, 2, 0, 0, 0, 1);
    }

    /** "Of the latest solve()", whatever came behind it; "there is no such what". */
    private static void latest() {
        Rows x = Tools.made("ABCDE", 1, 3);
        Expect.equal("solved before any", Tools.solvedOf(x), 0, 0, 0, 0);
        Tools.putCodeword(x, 3, 5);
        answers("one wrong", x, 5, 0, 0, 1, 1);
        x.make(0, 4);
        x.blank(5, 5);
        x.end(0);
        x.feed(1, 2, 3, 4, 5);
        x.put(0, 0, 5);
        Expect.equal("solved stays until the next", Tools.solvedOf(x), 0, 0, 1, 1);
        answers("the next", x, -1, 1, 0, 0, 0);
        x.make(0, 4);
        answers("and the next", x, 20, 0, 0, 0, 0);
        for (int what : new int[] {-1, 4, 5, Integer.MIN_VALUE, Integer.MAX_VALUE}) {
            Expect.thrown("solved(" + what + ")", IndexOutOfBoundsException.class, () -> x.solved(what));
            Rows fresh = new Rows();
            Expect.thrown("solved(" + what + ")", IndexOutOfBoundsException.class, () -> fresh.solved(what));
            Expect.thrown("no symbol", IllegalStateException.class, fresh::solve);
            Expect.equal("solved of a new one", Tools.solvedOf(fresh), 0, 0, 0, 0);
        }
    }
}
