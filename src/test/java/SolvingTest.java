/** Promises 11 and 12 up to fault 4: indicators, and what is spoilt or lost. */
public final class SolvingTest {
    public static void main(String[] args) {
        withoutFault();
        noIndicators();
        votes();
        otherShape();
        levelToldAtFault2();
        mending();
        beyondMending();
        manyRandom();
        lowestLevel();
        length();
        latest();
        Expect.finish("SolvingTest");
    }

    private static StackedRows made(String text, int level, int columns) {
        StackedRows x = new StackedRows();
        Tools.tape(x, Tools.bytesOf(text));
        x.make(level, columns);
        return x;
    }

    private static void answers(String what, StackedRows x, int due, int... solved) {
        Expect.equal(what + ": solve()", x.solve(), due);
        Expect.equal(what + ": solved", Tools.solvedOf(x), solved);
    }

    private static void withoutFault() {
        StackedRows x = made("Hello, World", 2, 4);
        int[] row = Tools.rowOf(x);
        x.end(0);
        x.feed(1, 2, 3, 4, 5);
        answers("plain", x, 12, 0, 0, 0, 2);
        Expect.equal("its bytes", Tools.tapeOf(x), Tools.bytesOf("Hello, World"));
        Expect.equal("the symbol stays", Tools.rowOf(x), row);
        StackedRows none = made("", 0, 1);
        none.feed(1, 2, 3, 4, 5);
        answers("of no bytes", none, 0, 0, 0, 0, 0);
        Expect.equal("no bytes", none.count(0), 0);
    }

    private static void noIndicators() {
        StackedRows x = new StackedRows();
        x.feed(1, 2, 3, 4, 5);
        x.blank(3, 1);
        answers("blank", x, -1, 1, 0, 0, 0);
        Expect.equal("the tape stays", x.count(0), 20);
        for (int kind = 0; kind < 3; kind++) {
            StackedRows y = made("ABCDEF", 1, 2);
            for (int row = 0; row < y.count(1); row++) {
                if (row % 3 == kind) {
                    y.put(row, 0, -1);
                }
                if ((row + 2) % 3 == kind) {
                    y.put(row, 3, 30 * (row / 3) + 30);
                }
            }
            answers("none of kind " + kind, y, -1, 1, 0, 0, 0);
        }
        for (int row = 3; row < 6; row++) {
            StackedRows y = made("ABCDEF", 1, 2);
            keepOnly(y, row);
            answers("one row tells two kinds", y, -1, 1, 0, 0, 0);
        }
        StackedRows z = made("ABCDEF", 1, 2);
        for (int row = 0; row < z.count(1); row++) {
            z.put(row, 0, row < 2 ? z.place(row, 0) : -1);
            z.put(row, 3, row == 0 ? z.place(row, 3) : 30 * (row / 3) == 0 ? 30 : 0);
        }
        answers("once each is enough", z, 6, 0, 0, 0, 1);
    }

    private static void keepOnly(StackedRows x, int kept) {
        for (int row = 0; row < x.count(1); row++) {
            if (row != kept) {
                x.put(row, 0, -1);
                x.put(row, x.count(2) + 1, -1);
            }
        }
    }

    /** The number told most often counts, of several the least; those of another row's third don't. */
    private static void votes() {
        StackedRows x = made("ABCDEF", 1, 1);
        Expect.equal("rows", x.count(1), 8);
        x.put(0, 0, 29);
        x.put(3, 0, 59);
        answers("two wrong for a, four right", x, 6, 0, 0, 0, 1);
        x.put(1, 2, 29);
        answers("three and three, the least is right", x, 6, 0, 0, 0, 1);
        x.put(4, 2, 59);
        answers("four wrong for a, two right", x, -1, 2, 0, 0, 1);
        x.put(4, 2, 32);
        x.put(0, 0, 0);
        x.put(3, 0, 30);
        x.put(1, 2, 0);
        answers("three and three, the least is wrong", x, -1, 2, 0, 0, 1);
        x.put(1, 2, 30);
        answers("another third's number does not count", x, 6, 0, 0, 0, 1);
        x.put(1, 2, 0);
        x.put(3, 0, 0);
        answers("those of another row don't count", x, 6, 0, 0, 0, 1);
        x.put(0, 0, -1);
        x.put(3, 0, -1);
        answers("lost ones don't count", x, 6, 0, 0, 0, 1);
    }

    private static void otherShape() {
        for (int rows = 4; rows <= 6; rows++) {
            for (int told = 3; told <= 9; told++) {
                StackedRows x = new StackedRows();
                x.blank(rows, 3);
                StackedRows other = new StackedRows();
                other.blank(told, 3);
                Tools.putIndicators(other, 1);
                for (int row = 0; row < Math.min(rows, told); row++) {
                    x.put(row, 0, other.place(row, 0));
                    x.put(row, 4, other.place(row, 4));
                }
                Expect.equal("told " + told + " of " + rows, x.solve(), -1);
                Expect.equal("fault", x.solved(0), told == rows ? 3 : 2);
                Expect.equal("level", x.solved(3), 1);
            }
        }
        StackedRows x = made("ABCDE", 1, 3);
        x.put(0, 4, 3);
        x.put(2, 0, 3);
        answers("other columns", x, -1, 2, 0, 0, 1);
    }

    private static void levelToldAtFault2() {
        for (int level = 0; level <= 9; level++) {
            StackedRows x = new StackedRows();
            x.blank(90, 10);
            Tools.putIndicators(x, level);
            answers("level " + level + " of 90 x 10", x, -1, level > 8 ? 2 : 3, 0, 0, level);
            x.blank(4, 1);
            Tools.putIndicators(x, level);
            answers("level " + level + " of 4 x 1", x, -1, level > 0 ? 2 : 3, 0, 0, level);
        }
        StackedRows x = new StackedRows();
        x.blank(16, 32 / 16);
        Tools.putIndicators(x, 4);
        answers("k = N", x, -1, 2, 0, 0, 4);
        x.blank(11, 3);
        Tools.putIndicators(x, 4);
        answers("k = N - 1", x, -1, 3, 0, 0, 4);
    }

    /** All that 2 t + s at most k - 2 allows, at both ends and between, is found again. */
    private static void mending() {
        Tools.Dice dice = new Tools.Dice(5);
        for (int level = 0; level <= 8; level++) {
            int k = 2 << level;
            for (int part = 0; part <= 4; part++) {
                int t = (k - 2) / 2 * part / 4;
                int s = k - 2 - 2 * t;
                StackedRows x = made("What was spoilt or lost 1234567890123456", level, 14);
                int[] row = Tools.rowOf(x);
                spoil(x, t, s, dice);
                int[] spoilt = Tools.rowOf(x);
                x.end(0);
                answers("level " + level + ", t " + t + ", s " + s, x, 40, 0, 0, t, level);
                Expect.equal("bytes", Tools.tapeOf(x), Tools.bytesOf("What was spoilt or lost 1234567890123456"));
                Expect.equal("the symbol stays spoilt", Tools.rowOf(x), spoilt);
                Expect.isTrue("row is the one that it was", row.length == spoilt.length);
            }
        }
    }

    /** With 2 t + s one or two above, no other row can be nearer, so that it is fault 3. */
    private static void beyondMending() {
        Tools.Dice dice = new Tools.Dice(6);
        for (int level = 0; level <= 8; level++) {
            int k = 2 << level;
            for (int above = 1; above <= 2; above++) {
                for (int part = 0; part <= 4; part++) {
                    int t = (k - 2 + above) / 2 * part / 4;
                    int s = k - 2 + above - 2 * t;
                    StackedRows x = made("What was spoilt or lost", level, 14);
                    spoil(x, t, s, dice);
                    answers("level " + level + ", t " + t + ", s " + s, x, -1, 3, 0, 0, level);
                    Expect.equal("the tape stays", x.count(0), 23);
                }
            }
        }
    }

    /** Far from every row, or as near to one as may be: the answer is told by the row that is found. */
    private static void manyRandom() {
        Tools.Dice dice = new Tools.Dice(7);
        StackedRows x = new StackedRows();
        for (int round = 0; round < 400; round++) {
            int level = dice.below(5);
            Tools.tape(x, Tools.bytesOf("ABCDEFGHIJ"));
            x.make(level, 1 + dice.below(12));
            int n = Tools.rowOf(x).length;
            int k = 2 << level;
            int t = dice.below(Math.min(k, n / 2));
            int s = dice.below(Math.min(k, n - t));
            spoil(x, t, s, dice);
            boolean found = 2 * t + s <= k - 2;
            int answer = x.solve();
            if (found) {
                Expect.equal("found, t " + t + ", s " + s, answer, 10);
                Expect.equal("wrong ones", x.solved(2), t);
            } else if (answer != StackedRows.NONE || x.solved(0) != 3) {
                Expect.isTrue("another row, near enough", 2 * x.solved(2) + s <= k - 2 && t + s + x.solved(2) > k);
            }
        }
    }

    private static void spoil(StackedRows x, int t, int s, Tools.Dice dice) {
        int n = x.count(1) * x.count(2);
        int[] order = new int[n];
        for (int i = 0; i < n; i++) {
            int j = dice.below(i + 1);
            order[i] = order[j];
            order[j] = i;
        }
        for (int i = 0; i < t; i++) {
            int was = Tools.codewordAt(x, order[i]);
            Tools.putCodeword(x, order[i], (was + 1 + dice.below(928)) % 929);
        }
        for (int i = t; i < t + s; i++) {
            Tools.putCodeword(x, order[i], StackedRows.LOST);
        }
    }

    private static void lowestLevel() {
        for (int i = 0; i < 9; i++) {
            StackedRows x = made("ABCDEFGH", 0, 3);
            Tools.putCodeword(x, i, StackedRows.LOST);
            answers("k = 2, lost " + i, x, -1, 3, 0, 0, 0);
            x = made("ABCDEFGH", 0, 3);
            Tools.putCodeword(x, i, Tools.codewordAt(x, i) == 0 ? 1 : 0);
            answers("k = 2, wrong " + i, x, -1, 3, 0, 0, 0);
        }
        StackedRows x = made("A", 1, 30);
        Tools.putCodeword(x, 0, StackedRows.LOST);
        Tools.putCodeword(x, 89, StackedRows.LOST);
        answers("both ends lost", x, 1, 0, 0, 0, 1);
        x = made("A", 1, 30);
        Tools.putCodeword(x, 0, 0);
        answers("the length wrong", x, 1, 0, 0, 1, 1);
        x = made("A", 1, 30);
        Tools.putCodeword(x, 89, (Tools.codewordAt(x, 89) + 5) % 929);
        answers("the last check wrong", x, 1, 0, 0, 1, 1);
        zeros();
    }

    /** A row of zeros has all sums 0; lost ones that should be 0 are still lost ones. */
    private static void zeros() {
        StackedRows x = new StackedRows();
        Tools.handRow(x, 2, 3, 0, 0, 0, 0);
        answers("zeros", x, -1, 4, 0, 0, 2);
        for (int s = 1; s <= 8; s++) {
            Tools.putCodeword(x, s, StackedRows.LOST);
            answers("zeros, lost " + s, x, -1, s <= 6 ? 4 : 3, 0, 0, 2);
        }
    }

    private static void length() {
        StackedRows x = new StackedRows();
        x.feed(1, 2, 3, 4, 5);
        for (int length : new int[] {0, 4, 6, 9, 928}) {
            Tools.handRow(x, 1, 3, length, 1, 63, 149, 900);
            answers("length " + length, x, -1, 4, 0, 0, 1);
        }
        Expect.equal("the tape stays", x.count(0), 20);
        Tools.handRow(x, 1, 3, 4, 1, 63, 149, 900);
        Tools.putCodeword(x, 4, 7);
        answers("fault 4 with one wrong", x, -1, 4, 0, 1, 1);
        Tools.handRow(x, 1, 3, 5, 1, 63, 149, 900);
        answers("length 5", x, 5, 0, 0, 0, 1);
    }

    private static void latest() {
        StackedRows x = made("ABCDE", 1, 3);
        Tools.putCodeword(x, 3, 5);
        answers("one wrong", x, 5, 0, 0, 1, 1);
        x.make(0, 4);
        x.blank(5, 5);
        x.end(0);
        Expect.equal("solved stays until the next", Tools.solvedOf(x), 0, 0, 1, 1);
        answers("the next", x, -1, 1, 0, 0, 0);
        Expect.thrown("solved(-1)", IndexOutOfBoundsException.class, () -> x.solved(-1));
        Expect.thrown("solved(4)", IndexOutOfBoundsException.class, () -> x.solved(4));
        Expect.thrown("solved(least)", IndexOutOfBoundsException.class, () -> x.solved(Integer.MIN_VALUE));
        StackedRows fresh = new StackedRows();
        Expect.thrown("solved(4) of a new one", IndexOutOfBoundsException.class, () -> fresh.solved(4));
        Expect.thrown("no symbol", IllegalStateException.class, fresh::solve);
        Expect.equal("solved of a new one", Tools.solvedOf(fresh), 0, 0, 0, 0);
    }
}
