import java.util.Arrays;

/** Symbols of stacked rows of codewords, written from bytes and read again as far as they can be. */
public final class StackedRows {
    public static final int NONE = -1, LOST = -1;

    private static final int MOST_BYTES = 1200;
    /** No byte takes more than two codewords, a change of the way before it among them. */
    private static final int MOST_WRITTEN = 2 * MOST_BYTES;

    private static final int LEAST_ROWS = 3;
    private static final int MOST_ROWS = 90;
    private static final int MOST_COLUMNS = 30;
    private static final int MOST_LEVEL = 8;
    private static final int MOST_CODEWORDS = 928;
    private static final int MOST_CHECKS = 2 << MOST_LEVEL;

    /** The numbers of the ways are the codewords that change to them. */
    private static final int TEXT = 900;
    private static final int BYTES = 901;
    private static final int DIGITS = 902;
    private static final int SIXES = 924;
    private static final int BYTE_ALONE = 913;
    private static final int FILLING = TEXT;

    private static final int BASE = 900;
    private static final int SIX_BYTES = 6;
    private static final int FIVE_CODEWORDS = 5;
    private static final int DIGITS_AT_ONCE = 44;
    private static final int CODEWORDS_AT_ONCE = 15;

    private static final int PRIME = 929;
    private static final int ROOT = 3;
    /** 3 times 310 is 1 modulo 929. */
    private static final int ROOT_INVERSE = 310;

    private final Tape tape;
    private final Writer writer;
    private final Checks checks;
    private final Symbol symbol;
    private final Solver solver;
    private final int[] row;
    private final int[] latest;

    public StackedRows() {
        tape = new Tape();
        writer = new Writer(tape);
        checks = new Checks();
        symbol = new Symbol();
        row = new int[MOST_CODEWORDS];
        solver = new Solver(row);
        latest = new int[4];
    }

    public int feed(int a, int b, int c, int d, int e) throws UnsupportedOperationException {
        if (tape.size() + 20 > MOST_BYTES) {
            throw new UnsupportedOperationException();
        }
        tape.addFour(a);
        tape.addFour(b);
        tape.addFour(c);
        tape.addFour(d);
        tape.addFour(e);
        writer.forget();
        return tape.size();
    }

    public void end(int n) throws IllegalArgumentException {
        if (n < 0 || n > tape.size()) {
            throw new IllegalArgumentException();
        }
        tape.cut(n);
        writer.forget();
    }

    public int byteAt(int k) throws IndexOutOfBoundsException {
        if (k < 0 || k >= tape.size()) {
            throw new IndexOutOfBoundsException();
        }
        return tape.get(k);
    }

    public int codewords() {
        writer.write();
        return writer.size();
    }

    public int codeword(int k) throws IndexOutOfBoundsException {
        writer.write();
        if (k < 0 || k >= writer.size()) {
            throw new IndexOutOfBoundsException();
        }
        return writer.get(k);
    }

    public int make(int level, int columns) throws IllegalArgumentException, UnsupportedOperationException {
        if (level < 0 || level > MOST_LEVEL || columns < 1 || columns > MOST_COLUMNS) {
            throw new IllegalArgumentException();
        }
        writer.write();
        int k = checksOf(level);
        int rows = rowsFor(1 + writer.size() + k, columns);
        int n = rows * columns;
        if (rows > MOST_ROWS || n > MOST_CODEWORDS) {
            throw new UnsupportedOperationException();
        }
        fillRow(n - k);
        checks.write(row, n, k);
        symbol.begin(rows, columns);
        symbol.fill(row, level);
        return rows;
    }

    public void blank(int rows, int columns) throws IllegalArgumentException {
        if (rows < LEAST_ROWS || rows > MOST_ROWS || columns < 1 || columns > MOST_COLUMNS) {
            throw new IllegalArgumentException();
        }
        if (rows * columns > MOST_CODEWORDS) {
            throw new IllegalArgumentException();
        }
        symbol.begin(rows, columns);
    }

    public int place(int row, int column) throws IllegalStateException, IndexOutOfBoundsException {
        if (!symbol.isThere()) {
            throw new IllegalStateException();
        }
        if (!symbol.has(row, column)) {
            throw new IndexOutOfBoundsException();
        }
        return symbol.get(row, column);
    }

    public void put(int row, int column, int codeword)
            throws IllegalStateException, IndexOutOfBoundsException, IllegalArgumentException {
        if (!symbol.isThere()) {
            throw new IllegalStateException();
        }
        if (!symbol.has(row, column)) {
            throw new IndexOutOfBoundsException();
        }
        if (codeword != LOST && (codeword < 0 || codeword >= PRIME)) {
            throw new IllegalArgumentException();
        }
        symbol.set(row, column, codeword);
    }

    public int solve() throws IllegalStateException, UnsupportedOperationException {
        if (!symbol.isThere()) {
            throw new IllegalStateException();
        }
        int fault = solver.run(symbol);
        if (fault == 0 && solver.bytes().size() > MOST_BYTES) {
            throw new UnsupportedOperationException();
        }
        latest[0] = fault;
        latest[1] = solver.faultAt();
        latest[2] = solver.wrong();
        latest[3] = solver.level();
        if (fault != 0) {
            return NONE;
        }
        tape.become(solver.bytes());
        writer.forget();
        return tape.size();
    }

    public int solved(int what) throws IndexOutOfBoundsException {
        if (what < 0 || what >= latest.length) {
            throw new IndexOutOfBoundsException();
        }
        return latest[what];
    }

    public int count(int what) throws IllegalArgumentException {
        if (what < 0 || what > 2) {
            throw new IllegalArgumentException();
        }
        if (what == 0) {
            return tape.size();
        }
        return what == 1 ? symbol.rows() : symbol.columns();
    }

    /** The fewest rows that have so many codewords; one above the most rows if none do. */
    private static int rowsFor(int codewords, int columns) {
        int rows = LEAST_ROWS;
        while (rows <= MOST_ROWS && rows * columns < codewords) {
            rows++;
        }
        return rows;
    }

    private void fillRow(int length) {
        row[0] = length;
        for (int i = 1; i < length; i++) {
            row[i] = i <= writer.size() ? writer.get(i - 1) : FILLING;
        }
    }

    private static int checksOf(int level) {
        return 2 << level;
    }

    private static int inverse(int a) {
        return power(a, PRIME - 2);
    }

    private static int power(int a, int exponent) {
        int answer = 1;
        int square = a;
        for (int left = exponent; left > 0; left = left / 2) {
            if (left % 2 == 1) {
                answer = answer * square % PRIME;
            }
            square = square * square % PRIME;
        }
        return answer;
    }

    private static int negative(int a) {
        return (PRIME - a) % PRIME;
    }

    /** Bytes. More than there may be are counted, but not kept. */
    private static final class Tape {
        private final int[] bytes;
        private int size;

        Tape() {
            bytes = new int[MOST_BYTES];
            size = 0;
        }

        int size() {
            return size;
        }

        int get(int k) {
            return k >= 0 && k < size && k < MOST_BYTES ? bytes[k] : NONE;
        }

        void add(int b) {
            if (size < MOST_BYTES) {
                bytes[size] = b;
            }
            size++;
        }

        void addFour(int number) {
            for (int shift = 24; shift >= 0; shift -= 8) {
                add(number >> shift & 255);
            }
        }

        void cut(int length) {
            size = length;
        }

        void become(Tape other) {
            size = Math.min(other.size, MOST_BYTES);
            System.arraycopy(other.bytes, 0, bytes, 0, size);
        }

        boolean hasDigit(int k) {
            int b = get(k);
            return b >= '0' && b <= '9';
        }

        boolean hasText(int k) {
            int b = get(k);
            return b == 9 || b == 10 || b == 13 || b >= 32 && b <= 126;
        }
    }

    /** A list of codewords as they are written. */
    private static final class Codewords {
        private final int[] cells;
        private int size;

        Codewords() {
            cells = new int[MOST_WRITTEN];
            size = 0;
        }

        int size() {
            return size;
        }

        int get(int k) {
            return k >= 0 && k < size ? cells[k] : NONE;
        }

        void add(int codeword) {
            if (size < MOST_WRITTEN) {
                cells[size] = codeword;
                size++;
            }
        }

        void clear() {
            size = 0;
        }
    }

    /** A number too great for a long: its cells to some base, the lowest first. */
    private static final class BigNumber {
        private final int base;
        private final int[] cells;

        BigNumber(int base, int length) {
            this.base = Math.max(base, 2);
            cells = new int[Math.max(length, 1)];
        }

        void become(int cell) {
            Arrays.fill(cells, 0);
            cells[0] = cell;
        }

        void timesPlus(int factor, int more) {
            int carry = more;
            for (int i = 0; i < cells.length; i++) {
                carry += cells[i] * factor;
                cells[i] = carry % base;
                carry = carry / base;
            }
        }

        int highest() {
            int i = cells.length - 1;
            while (i > 0 && cells[i] == 0) {
                i--;
            }
            return i;
        }

        int get(int i) {
            return i >= 0 && i < cells.length ? cells[i] : 0;
        }
    }

    /** The four sets of text; a byte's number is its index. */
    private enum Letters {
        CAPITALS("ABCDEFGHIJKLMNOPQRSTUVWXYZ "),
        SMALL("abcdefghijklmnopqrstuvwxyz "),
        /** 25 is a change; the zero, which is no byte of text, keeps its index free. */
        MIXED("0123456789&\r\t,:#-.$/+%*=^\0 "),
        SIGNS(";<>@[\\]_`~!\r\t,:\n-.$/\"|*()?{}'");

        private static final int TO_SIGNS = 25;
        private static final int TO_OTHER_LETTERS = 27;
        private static final int TO_MIXED = 28;
        private static final int MIXED_TO_CAPITALS = 28;
        private static final int SIGN_ALONE = 29;
        private static final int SIGNS_TO_CAPITALS = 29;

        private final String bytes;

        Letters(String bytes) {
            this.bytes = bytes;
        }

        int numberOf(int b) {
            return bytes.indexOf((char) b);
        }

        boolean has(int b) {
            return bytes.indexOf((char) b) != NONE;
        }

        /** The byte that a number is; NONE for a change. */
        int byteOf(int number) {
            if (number < 0 || number >= bytes.length() || bytes.charAt(number) == '\0') {
                return NONE;
            }
            return bytes.charAt(number);
        }

        /** The set that a number changes to for good; null if it does not. */
        Letters changedBy(int number) {
            if (this == SIGNS) {
                return number == SIGNS_TO_CAPITALS ? CAPITALS : null;
            }
            if (this == MIXED && number == TO_SIGNS) {
                return SIGNS;
            }
            if (this == MIXED && number == MIXED_TO_CAPITALS) {
                return CAPITALS;
            }
            if (this != SMALL && number == TO_OTHER_LETTERS) {
                return SMALL;
            }
            return this != MIXED && number == TO_MIXED ? MIXED : null;
        }

        /** The set that a number tells for one byte alone; null if it does not. */
        Letters aloneBy(int number) {
            if (this == SMALL && number == TO_OTHER_LETTERS) {
                return CAPITALS;
            }
            return this != SIGNS && number == SIGN_ALONE ? SIGNS : null;
        }

        /** The number to write before a byte that this set has not. */
        int beforeByte(int b, boolean signBehind) {
            if (this == SIGNS) {
                return SIGNS_TO_CAPITALS;
            }
            if (this == MIXED && CAPITALS.has(b)) {
                return MIXED_TO_CAPITALS;
            }
            if (CAPITALS.has(b) || SMALL.has(b)) {
                return TO_OTHER_LETTERS;
            }
            if (this == MIXED) {
                return signBehind ? TO_SIGNS : SIGN_ALONE;
            }
            return MIXED.has(b) ? TO_MIXED : SIGN_ALONE;
        }
    }

    /** Writes text; it keeps its set from one piece of text to the next. */
    private static final class TextWriter {
        private static final int PAD = 29;
        /** From signs to capitals, to another set, and the byte itself. */
        private static final int MOST_LOOKS = 3;

        private final Codewords out;
        private Letters set;
        private int half;

        TextWriter(Codewords out) {
            this.out = out;
            set = Letters.CAPITALS;
            half = NONE;
        }

        void beginWithCapitals() {
            set = Letters.CAPITALS;
        }

        void write(Tape tape, int from, int upTo) {
            int at = from;
            for (int look = 0; look < MOST_LOOKS * (upTo - from) && at < upTo; look++) {
                boolean signBehind = at + 1 < upTo && Letters.SIGNS.has(tape.get(at + 1));
                at += lookAt(tape.get(at), signBehind);
            }
            pad();
        }

        /** How many bytes are written: 1, or 0 if the set has changed and the byte is to be looked at anew. */
        private int lookAt(int b, boolean signBehind) {
            int number = set.numberOf(b);
            if (number != NONE) {
                add(number);
                return 1;
            }
            int before = set.beforeByte(b, signBehind);
            add(before);
            Letters changed = set.changedBy(before);
            if (changed != null) {
                set = changed;
                return 0;
            }
            Letters alone = set.aloneBy(before);
            if (alone != null) {
                add(alone.numberOf(b));
            }
            return 1;
        }

        private void add(int number) {
            if (half == NONE) {
                half = number;
            } else {
                out.add(30 * half + number);
                half = NONE;
            }
        }

        private void pad() {
            if (half != NONE) {
                add(PAD);
                Letters changed = set.changedBy(PAD);
                set = changed != null ? changed : set;
            }
        }
    }

    /** Writes the bytes of a tape as codewords, once until it is told to forget them. */
    private static final class Writer {
        private static final int MANY_DIGITS = 13;
        private static final int MANY_TEXTS = 5;

        private final Tape tape;
        private final Codewords out;
        private final TextWriter text;
        private final BigNumber number;
        /** From each place on: the document's D and T, and a 0 behind the last place. */
        private final int[] digits;
        private final int[] texts;
        private int way;
        private boolean fresh;

        Writer(Tape tape) {
            this.tape = tape;
            out = new Codewords();
            text = new TextWriter(out);
            number = new BigNumber(BASE, CODEWORDS_AT_ONCE);
            digits = new int[MOST_BYTES + 1];
            texts = new int[MOST_BYTES + 1];
            way = TEXT;
            fresh = false;
        }

        void forget() {
            fresh = false;
        }

        int size() {
            return out.size();
        }

        int get(int k) {
            return out.get(k);
        }

        void write() {
            if (fresh) {
                return;
            }
            fresh = true;
            measure(tape.size());
            way = TEXT;
            text.beginWithCapitals();
            out.clear();
            int at = 0;
            for (int part = 0; part < tape.size() && at < tape.size(); part++) {
                at = writePart(at);
            }
        }

        private void measure(int length) {
            digits[length] = 0;
            texts[length] = 0;
            for (int at = length - 1; at >= 0; at--) {
                digits[at] = tape.hasDigit(at) ? digits[at + 1] + 1 : 0;
                texts[at] = tape.hasText(at) && digits[at] < MANY_DIGITS ? texts[at + 1] + 1 : 0;
            }
        }

        /** Writes what comes in one way, and tells where it ends. */
        private int writePart(int from) {
            if (digits[from] >= MANY_DIGITS) {
                writeDigits(from, from + digits[from]);
                return from + digits[from];
            }
            int endOfTexts = from + texts[from];
            if (texts[from] >= MANY_TEXTS || texts[from] > 0 && endOfTexts == tape.size()) {
                changeToText();
                text.write(tape, from, endOfTexts);
                return endOfTexts;
            }
            int endOfBytes = endOfBytes(from);
            writeBytes(from, endOfBytes);
            return endOfBytes;
        }

        private int endOfBytes(int from) {
            int at = from + 1;
            while (at < tape.size() && digits[at] < MANY_DIGITS && texts[at] < MANY_TEXTS) {
                at++;
            }
            return at;
        }

        private void changeToText() {
            if (way != TEXT) {
                out.add(TEXT);
                text.beginWithCapitals();
                way = TEXT;
            }
        }

        private void writeBytes(int from, int upTo) {
            if (upTo - from == 1 && way == TEXT) {
                out.add(BYTE_ALONE);
                out.add(tape.get(from));
                return;
            }
            way = BYTES;
            int sixes = (upTo - from) / SIX_BYTES;
            int rest = from + sixes * SIX_BYTES;
            out.add(rest == upTo ? SIXES : BYTES);
            for (int at = from; at < rest; at += SIX_BYTES) {
                writeSix(at);
            }
            for (int at = rest; at < upTo; at++) {
                out.add(tape.get(at));
            }
        }

        private void writeSix(int from) {
            long six = 0;
            for (int i = 0; i < SIX_BYTES; i++) {
                six = six << 8 | tape.get(from + i);
            }
            long unit = (long) BASE * BASE * BASE * BASE;
            for (int i = 0; i < FIVE_CODEWORDS && unit > 0; i++) {
                out.add((int) (six / unit % BASE));
                unit = unit / BASE;
            }
        }

        private void writeDigits(int from, int upTo) {
            way = DIGITS;
            out.add(DIGITS);
            for (int at = from; at < upTo; at += DIGITS_AT_ONCE) {
                writeNumber(at, Math.min(at + DIGITS_AT_ONCE, upTo));
            }
        }

        private void writeNumber(int from, int upTo) {
            number.become(1);
            for (int at = from; at < upTo; at++) {
                number.timesPlus(10, tape.get(at) - '0');
            }
            for (int i = number.highest(); i >= 0; i--) {
                out.add(number.get(i));
            }
        }
    }

    /** Rows of places, with one for an indicator at both ends of each. */
    private static final class Symbol {
        private final int[] places;
        private int rows;
        private int columns;

        Symbol() {
            places = new int[MOST_CODEWORDS + 2 * MOST_ROWS];
            rows = 0;
            columns = 0;
        }

        boolean isThere() {
            return rows > 0;
        }

        int rows() {
            return rows;
        }

        int columns() {
            return columns;
        }

        void begin(int newRows, int newColumns) {
            rows = newRows;
            columns = newColumns;
            Arrays.fill(places, LOST);
        }

        boolean has(int row, int column) {
            return row >= 0 && row < rows && column >= 0 && column <= columns + 1;
        }

        int get(int row, int column) {
            return has(row, column) ? places[row * (columns + 2) + column] : LOST;
        }

        void set(int row, int column, int codeword) {
            if (has(row, column)) {
                places[row * (columns + 2) + column] = codeword;
            }
        }

        void fill(int[] codewords, int level) {
            for (int row = 0; row < rows; row++) {
                set(row, 0, 30 * (row / 3) + indicated(leftKind(row), level));
                set(row, columns + 1, 30 * (row / 3) + indicated(rightKind(row), level));
                for (int column = 1; column <= columns; column++) {
                    set(row, column, codewords[row * columns + column - 1]);
                }
            }
        }

        void copyTo(int[] codewords) {
            for (int row = 0; row < rows; row++) {
                for (int column = 1; column <= columns; column++) {
                    codewords[row * columns + column - 1] = get(row, column);
                }
            }
        }

        /** The kinds 0, 1, 2 are the document's a, b, c. */
        static int leftKind(int row) {
            return row % 3;
        }

        static int rightKind(int row) {
            return (row + 2) % 3;
        }

        private int indicated(int kind, int level) {
            if (kind == 0) {
                return (rows - 1) / 3;
            }
            return kind == 1 ? 3 * level + (rows - 1) % 3 : columns - 1;
        }
    }

    /** Finds the check codewords of a row. */
    private static final class Checks {
        private final int[] factors;

        Checks() {
            factors = new int[MOST_CHECKS + 1];
        }

        void write(int[] row, int n, int k) {
            multiplyFactors(k);
            divide(row, n, k);
            for (int i = n - k; i < n; i++) {
                row[i] = negative(row[i]);
            }
        }

        /** The product of x - 3, x - 3^2, .., the lowest factor first. */
        private void multiplyFactors(int k) {
            factors[0] = 1;
            int root = 1;
            for (int degree = 1; degree <= k; degree++) {
                root = root * ROOT % PRIME;
                int minusRoot = negative(root);
                factors[degree] = 1;
                for (int i = degree - 1; i > 0; i--) {
                    factors[i] = (factors[i - 1] + minusRoot * factors[i]) % PRIME;
                }
                factors[0] = minusRoot * factors[0] % PRIME;
            }
        }

        /** What is left over comes to stand where the checks will be. */
        private void divide(int[] row, int n, int k) {
            for (int i = n - k; i < n; i++) {
                row[i] = 0;
            }
            for (int at = 0; at < n - k; at++) {
                int minusFactor = negative((row[at] + row[n - k]) % PRIME);
                for (int i = k - 1; i > 0; i--) {
                    row[n - 1 - i] = (row[n - i] + minusFactor * factors[i]) % PRIME;
                }
                row[n - 1] = minusFactor * factors[0] % PRIME;
            }
        }
    }

    /**
     * Finds the row of codewords that another one was before some were spoilt or lost. The locator is 0 at the inverse
     * of 3^(N - 1 - i) for each codeword i that is lost or wrong; it is found from the sums by Berlekamp and Massey's way.
     */
    private static final class Mender {
        private final int[] mended;
        private final int[] sums;
        private final int[] locator;
        private final int[] earlier;
        private final int[] kept;
        private final int[] evaluator;
        private int n;
        private int k;
        private int degree;

        Mender(int[] mended) {
            this.mended = mended;
            sums = new int[MOST_CHECKS + 1];
            locator = new int[MOST_CHECKS + 1];
            earlier = new int[MOST_CHECKS + 1];
            kept = new int[MOST_CHECKS + 1];
            evaluator = new int[MOST_CHECKS + 1];
            n = 0;
            k = 0;
            degree = 0;
        }

        /** How many codewords that are not lost were wrong; NONE if the row can't be found. */
        int mend(int[] row, int length, int checks) {
            n = length;
            k = checks;
            int lost = copyWithoutLost(row);
            if (lost > k - 2) {
                return NONE;
            }
            if (sumsAreZero()) {
                return 0;
            }
            locateLost(row);
            locateWrong(lost);
            if (2 * degree - lost > k - 2 || !correct() || !sumsAreZero()) {
                return NONE;
            }
            int wrong = countWrong(row);
            return 2 * wrong + lost <= k - 2 ? wrong : NONE;
        }

        private int copyWithoutLost(int[] row) {
            int lost = 0;
            for (int i = 0; i < n; i++) {
                mended[i] = row[i] == LOST ? 0 : row[i];
                lost += row[i] == LOST ? 1 : 0;
            }
            return lost;
        }

        private int countWrong(int[] row) {
            int wrong = 0;
            for (int i = 0; i < n; i++) {
                wrong += row[i] != LOST && row[i] != mended[i] ? 1 : 0;
            }
            return wrong;
        }

        private boolean sumsAreZero() {
            boolean zero = true;
            int x = 1;
            for (int j = 1; j <= k; j++) {
                x = x * ROOT % PRIME;
                sums[j] = sumAt(x);
                zero = zero && sums[j] == 0;
            }
            return zero;
        }

        private int sumAt(int x) {
            int sum = 0;
            for (int i = 0; i < n; i++) {
                sum = (sum * x + mended[i]) % PRIME;
            }
            return sum;
        }

        private void locateLost(int[] row) {
            Arrays.fill(locator, 0);
            locator[0] = 1;
            degree = 0;
            int x = 1;
            for (int i = n - 1; i >= 0; i--) {
                if (row[i] == LOST && degree < k) {
                    degree++;
                    for (int j = degree; j > 0; j--) {
                        locator[j] = (locator[j] + negative(x) * locator[j - 1]) % PRIME;
                    }
                }
                x = x * ROOT % PRIME;
            }
        }

        private void locateWrong(int lost) {
            copy(locator, earlier);
            int earlierInverse = 1;
            int gap = 1;
            for (int step = lost + 1; step <= k; step++) {
                int miss = missAt(step);
                boolean longer = miss != 0 && 2 * degree <= step + lost - 1;
                if (longer) {
                    copy(locator, kept);
                }
                if (miss != 0) {
                    subtractEarlier(miss * earlierInverse % PRIME, gap, step);
                }
                gap++;
                if (longer) {
                    copy(kept, earlier);
                    earlierInverse = inverse(miss);
                    gap = 1;
                    degree = step + lost - degree;
                }
            }
        }

        private void copy(int[] from, int[] to) {
            System.arraycopy(from, 0, to, 0, k + 1);
        }

        private int missAt(int step) {
            int miss = 0;
            for (int i = 0; i <= degree && i < step; i++) {
                miss = (miss + locator[i] * sums[step - i]) % PRIME;
            }
            return miss;
        }

        private void subtractEarlier(int factor, int gap, int step) {
            int minusFactor = negative(factor);
            for (int i = gap; i <= step; i++) {
                locator[i] = (locator[i] + minusFactor * earlier[i - gap]) % PRIME;
            }
        }

        /** Forney's way; whether the locator has as many zeros among the codewords as it should. */
        private boolean correct() {
            prepareEvaluator();
            int zeros = 0;
            int x = 1;
            for (int i = n - 1; i >= 0; i--) {
                if (valueAt(x, locator, degree + 1) == 0) {
                    zeros++;
                    int correction = valueAt(x, evaluator, degree) * inverse(slopeAt(x));
                    mended[i] = (mended[i] + correction) % PRIME;
                }
                x = x * ROOT_INVERSE % PRIME;
            }
            return zeros == degree;
        }

        private void prepareEvaluator() {
            for (int i = 0; i < degree; i++) {
                int factor = 0;
                for (int j = 0; j <= i; j++) {
                    factor = (factor + locator[j] * sums[i - j + 1]) % PRIME;
                }
                evaluator[i] = factor;
            }
        }

        /** The value of the first so many factors, the lowest first. */
        private static int valueAt(int x, int[] factors, int length) {
            int value = 0;
            for (int i = length - 1; i >= 0; i--) {
                value = (value * x + factors[i]) % PRIME;
            }
            return value;
        }

        /** The value of the locator's derivative. */
        private int slopeAt(int x) {
            int value = 0;
            for (int i = degree; i > 0; i--) {
                value = (value * x + i * locator[i]) % PRIME;
            }
            return value;
        }
    }

    /** Reads codewords to a tape, or to the first fault. */
    private static final class Reader {
        private static final int MOST_BYTE = 255;
        private static final long BEYOND_SIX_BYTES = 1L << 48;

        private final int[] row;
        private final Tape out;
        private final BigNumber number;
        private int upTo;
        private int way;
        private Letters set;
        private Letters alone;
        private int faultAt;

        Reader(int[] row, Tape out) {
            this.row = row;
            this.out = out;
            number = new BigNumber(10, DIGITS_AT_ONCE + 1);
            upTo = 0;
            way = TEXT;
            set = Letters.CAPITALS;
            alone = null;
            faultAt = 0;
        }

        /** Reads the codewords behind the length; the number of the one with a fault, or 0. */
        int read(int length) {
            upTo = length;
            out.cut(0);
            faultAt = 0;
            changeTo(TEXT);
            int at = 1;
            for (int turn = 0; turn < length && at < length && faultAt == 0; turn++) {
                at = readPart(at);
            }
            return faultAt;
        }

        private int readPart(int at) {
            int codeword = row[at];
            if (codeword >= BASE) {
                return readChange(at, codeword);
            }
            if (way == DIGITS) {
                return readDigits(at);
            }
            if (way != TEXT) {
                return readBytes(at);
            }
            readNumber(codeword / 30);
            readNumber(codeword % 30);
            return at + 1;
        }

        private int readChange(int at, int codeword) {
            if (codeword == BYTE_ALONE && way == TEXT) {
                alone = null;
                return readByte(at + 1);
            }
            if (codeword == TEXT || codeword == BYTES || codeword == SIXES || codeword == DIGITS) {
                changeTo(codeword);
            } else {
                faultAt = at;
            }
            return at + 1;
        }

        private void changeTo(int newWay) {
            way = newWay;
            set = Letters.CAPITALS;
            alone = null;
        }

        private void readNumber(int ofText) {
            Letters here = alone != null ? alone : set;
            int b = here.byteOf(ofText);
            if (b != NONE) {
                out.add(b);
            }
            if (b != NONE || alone != null) {
                alone = null;
                return;
            }
            alone = set.aloneBy(ofText);
            Letters changed = set.changedBy(ofText);
            set = changed != null ? changed : set;
        }

        private int readByte(int at) {
            if (at >= upTo || row[at] > MOST_BYTE) {
                faultAt = at;
            } else {
                out.add(row[at]);
            }
            return at + 1;
        }

        /** Where the codewords below 900 end, so many at the most. */
        private int endOfRun(int from, int most) {
            int at = from;
            while (at < upTo && at - from < most && row[at] < BASE) {
                at++;
            }
            return at;
        }

        private int readBytes(int from) {
            int needed = way == SIXES ? FIVE_CODEWORDS : FIVE_CODEWORDS + 1;
            if (endOfRun(from, needed) - from < needed) {
                return readByte(from);
            }
            long six = 0;
            for (int i = 0; i < FIVE_CODEWORDS; i++) {
                six = six * BASE + row[from + i];
            }
            if (six >= BEYOND_SIX_BYTES) {
                faultAt = from;
                return from + FIVE_CODEWORDS;
            }
            for (int shift = 40; shift >= 0; shift -= 8) {
                out.add((int) (six >> shift) & 255);
            }
            return from + FIVE_CODEWORDS;
        }

        private int readDigits(int from) {
            int end = endOfRun(from, CODEWORDS_AT_ONCE);
            number.become(0);
            for (int at = from; at < end; at++) {
                number.timesPlus(BASE, row[at]);
            }
            int highest = number.highest();
            if (number.get(highest) != 1) {
                faultAt = from;
                return end;
            }
            for (int i = highest - 1; i >= 0; i--) {
                out.add('0' + number.get(i));
            }
            return end;
        }
    }

    /** Solves a symbol up to its first fault. */
    private static final class Solver {
        private static final int KINDS = 3;
        private static final int NUMBERS = 30;

        private final int[] told;
        private final int[] row;
        private final int[] mended;
        private final Mender mender;
        /** A tape of its own, so that a fault leaves the other one as it is. */
        private final Tape bytes;
        private final Reader reader;
        private int faultAt;
        private int wrong;
        private int level;

        Solver(int[] row) {
            this.row = row;
            told = new int[KINDS * NUMBERS];
            mended = new int[MOST_CODEWORDS];
            mender = new Mender(mended);
            bytes = new Tape();
            reader = new Reader(mended, bytes);
            faultAt = 0;
            wrong = 0;
            level = 0;
        }

        Tape bytes() {
            return bytes;
        }

        int faultAt() {
            return faultAt;
        }

        int wrong() {
            return wrong;
        }

        int level() {
            return level;
        }

        /** The fault, or 0: then the bytes are those of the symbol. */
        int run(Symbol symbol) {
            faultAt = 0;
            wrong = 0;
            level = 0;
            hearIndicators(symbol);
            int a = mostTold(0);
            int b = mostTold(1);
            int c = mostTold(2);
            if (a == NONE || b == NONE || c == NONE) {
                return 1;
            }
            level = b / 3;
            int n = symbol.rows() * symbol.columns();
            boolean fits = 3 * a + b % 3 + 1 == symbol.rows() && c + 1 == symbol.columns();
            if (!fits || level > MOST_LEVEL || checksOf(level) >= n) {
                return 2;
            }
            symbol.copyTo(row);
            return mendAndRead(n, checksOf(level));
        }

        private int mendAndRead(int n, int k) {
            int found = mender.mend(row, n, k);
            if (found == NONE) {
                return 3;
            }
            wrong = found;
            if (mended[0] != n - k) {
                return 4;
            }
            faultAt = reader.read(n - k);
            return faultAt == 0 ? 0 : 5;
        }

        private void hearIndicators(Symbol symbol) {
            Arrays.fill(told, 0);
            for (int at = 0; at < symbol.rows(); at++) {
                hear(Symbol.leftKind(at), symbol.get(at, 0) - 30 * (at / 3));
                hear(Symbol.rightKind(at), symbol.get(at, symbol.columns() + 1) - 30 * (at / 3));
            }
        }

        /** A lost place of the first rows comes as -1, so it is none of the numbers either. */
        private void hear(int kind, int number) {
            if (number >= 0 && number < NUMBERS) {
                told[kind * NUMBERS + number]++;
            }
        }

        private int mostTold(int kind) {
            int most = 0;
            int best = NONE;
            for (int number = 0; number < NUMBERS; number++) {
                int times = told[kind * NUMBERS + number];
                if (times > most) {
                    most = times;
                    best = number;
                }
            }
            return best;
        }
    }
}
