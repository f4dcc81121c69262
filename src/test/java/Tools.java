import java.util.ArrayList;
import java.util.List;
import java.util.function.Supplier;

/** What several tests need; it follows the document by ways of its own. */
final class Tools {
    static final int PRIME = 929;
    private static final int LOOKS_AT_ONCE = 200;

    private Tools() {
    }

    /** Fixed numbers that look random, the same in each run. */
    static final class Dice {
        private long state;

        Dice(long seed) {
            state = seed;
        }

        int below(int n) {
            state = state * 6364136223846793005L + 1442695040888963407L;
            return (int) ((state >>> 33) % n);
        }
    }

    static int[] bytesOf(String text) {
        int[] bytes = new int[text.length()];
        for (int i = 0; i < bytes.length; i++) {
            bytes[i] = text.charAt(i);
        }
        return bytes;
    }

    /** The tape behind this has just these bytes (1200 at the most). */
    static void tape(Rows x, int... bytes) {
        x.end(0);
        for (int at = 0; at < bytes.length; at += 20) {
            int[] five = new int[5];
            for (int i = 0; i < 20; i++) {
                int b = at + i < bytes.length ? bytes[at + i] : 0;
                five[i / 4] = five[i / 4] << 8 | b;
            }
            x.feed(five[0], five[1], five[2], five[3], five[4]);
        }
        x.end(bytes.length);
    }

    static int[] tapeOf(Rows x) {
        int[] bytes = new int[x.count(0)];
        for (int i = 0; i < bytes.length; i++) {
            bytes[i] = x.byteAt(i);
        }
        return bytes;
    }

    static int[] codewordsOf(Rows x) {
        int[] codewords = new int[x.codewords()];
        for (int i = 0; i < codewords.length; i++) {
            codewords[i] = x.codeword(i);
        }
        return codewords;
    }

    interface Look {
        int at(Rows x, int i);
    }

    /** So many answers, each of an object that was built alike: one object would need more calls than it may have. */
    static int[] looks(Supplier<Rows> build, int size, Look look) {
        int[] answers = new int[size];
        for (int from = 0; from < size; from += LOOKS_AT_ONCE) {
            Rows x = build.get();
            for (int i = from; i < Math.min(from + LOOKS_AT_ONCE, size); i++) {
                answers[i] = look.at(x, i);
            }
        }
        return answers;
    }

    static int[] tapeOf(Supplier<Rows> build) {
        return looks(build, build.get().count(0), Rows::byteAt);
    }

    static int[] codewordsOf(Supplier<Rows> build) {
        return looks(build, build.get().codewords(), Rows::codeword);
    }

    static int[] rowOf(Supplier<Rows> build) {
        Rows x = build.get();
        return looks(build, x.rows() * x.columns(), Tools::codewordAt);
    }

    /** All places, the indicators too. */
    static int[] placesOf(Supplier<Rows> build) {
        Rows x = build.get();
        int wide = x.columns() + 2;
        return looks(build, x.rows() * wide, (y, i) -> y.place(i / wide, i % wide));
    }

    static Rows withTape(int... bytes) {
        Rows x = new Rows();
        tape(x, bytes);
        return x;
    }

    static Rows withTape(String text) {
        return withTape(bytesOf(text));
    }

    static Rows made(String text, int level, int columns) {
        Rows x = withTape(text);
        x.make(level, columns);
        return x;
    }

    /** The codewords 0 .. N - 1 of the symbol. */
    static int[] rowOf(Rows x) {
        int columns = x.columns();
        int[] row = new int[x.rows() * columns];
        for (int i = 0; i < row.length; i++) {
            row[i] = x.place(i / columns, 1 + i % columns);
        }
        return row;
    }

    static int[] solvedOf(Rows x) {
        return new int[] {x.solved(0), x.solved(1), x.solved(2), x.solved(3)};
    }

    static void putCodeword(Rows x, int i, int codeword) {
        x.put(i / x.columns(), 1 + i % x.columns(), codeword);
    }

    static int codewordAt(Rows x, int i) {
        return x.place(i / x.columns(), 1 + i % x.columns());
    }

    /** The sum of the document for x = 3^j. */
    static int sum(int[] row, int j) {
        long x = 1;
        for (int i = 0; i < j; i++) {
            x = x * 3 % PRIME;
        }
        long sum = 0;
        for (int c : row) {
            sum = (sum * x + c) % PRIME;
        }
        return (int) sum;
    }

    /** The data and its checks, by long division with the product of x - 3, x - 3^2, .. */
    static int[] withChecks(int[] data, int k) {
        long[] g = {1};
        long root = 1;
        for (int j = 1; j <= k; j++) {
            root = root * 3 % PRIME;
            long[] next = new long[g.length + 1];
            for (int i = 0; i < g.length; i++) {
                next[i] = (next[i] + g[i]) % PRIME;
                next[i + 1] = (next[i + 1] + (PRIME - root) * g[i]) % PRIME;
            }
            g = next;
        }
        long[] rest = new long[data.length + k];
        for (int i = 0; i < data.length; i++) {
            rest[i] = data[i];
        }
        for (int i = 0; i < data.length; i++) {
            long f = rest[i];
            for (int j = 0; j <= k; j++) {
                rest[i + j] = (rest[i + j] + (PRIME - f) * g[j]) % PRIME;
            }
        }
        int[] row = java.util.Arrays.copyOf(data, data.length + k);
        for (int i = data.length; i < row.length; i++) {
            row[i] = (int) ((PRIME - rest[i]) % PRIME);
        }
        return row;
    }

    static void putIndicators(Rows x, int level) {
        int rows = x.rows();
        int columns = x.columns();
        int[] abc = {(rows - 1) / 3, 3 * level + (rows - 1) % 3, columns - 1};
        int[] right = {abc[2], abc[0], abc[1]};
        for (int row = 0; row < rows; row++) {
            x.put(row, 0, 30 * (row / 3) + abc[row % 3]);
            x.put(row, columns + 1, 30 * (row / 3) + right[row % 3]);
        }
    }

    /** A symbol with these codewords behind a length; up to 90 in all it is one column, with filling only up to three rows. */
    static void hand(Rows x, int level, int... codewords) {
        int k = 2 << level;
        int n = Math.max(3, 1 + codewords.length + k);
        int columns = (n + 89) / 90;
        n = (n + columns - 1) / columns * columns;
        List<Integer> data = new ArrayList<>();
        data.add(n - k);
        for (int c : codewords) {
            data.add(c);
        }
        while (data.size() < n - k) {
            data.add(900);
        }
        handRow(x, level, columns, data.stream().mapToInt(Integer::intValue).toArray());
    }

    /** A symbol with this data, the length among it, in so many columns. */
    static void handRow(Rows x, int level, int columns, int... data) {
        int[] row = withChecks(data, 2 << level);
        x.blank(row.length / columns, columns);
        putIndicators(x, level);
        for (int i = 0; i < row.length; i++) {
            putCodeword(x, i, row[i]);
        }
    }
}
