import java.util.function.Supplier;

/** Promises 11 and 12: how codewords are read, and fault 5. */
public final class ReadingTest {
    public static void main(String[] args) {
        text();
        textAlone();
        bytesAlone();
        bytes();
        digits();
        filling();
        faultsBehindFault5();
        noSuchCodewords();
        tooManyBytes();
        roundTrips();
        Expect.finish("ReadingTest");
    }

    private static String shown(int[] codewords) {
        return java.util.Arrays.toString(codewords);
    }

    private static void reads(int[] codewords, String due) {
        Rows x = Tools.withTape(1, 2, 3);
        Tools.hand(x, 0, codewords);
        Expect.equal("solve of " + shown(codewords), x.solve(), due.length());
        Expect.equal("bytes of " + shown(codewords), Tools.tapeOf(x), Tools.bytesOf(due));
        Expect.equal("solved of " + shown(codewords), Tools.solvedOf(x), 0, 0, 0, 0);
    }

    private static Rows faultAt(int at, int... codewords) {
        Rows x = Tools.withTape(1, 2, 3);
        Tools.hand(x, 0, codewords);
        Expect.equal("solve of " + shown(codewords), x.solve(), -1);
        Expect.equal("solved of " + shown(codewords), Tools.solvedOf(x), 5, at, 0, 0);
        Expect.equal("the tape stays", Tools.tapeOf(x), 1, 2, 3);
        return x;
    }

    private static int[] codewords(int... codewords) {
        return codewords;
    }

    /** Numbers of text, an even count of them. */
    private static int[] twos(int... numbers) {
        int[] codewords = new int[numbers.length / 2];
        for (int i = 0; i < codewords.length; i++) {
            codewords[i] = 30 * numbers[2 * i] + numbers[2 * i + 1];
        }
        return codewords;
    }

    private static void text() {
        reads(twos(0, 25, 26, 1), "AZ B");
        reads(twos(27, 0, 25, 26), "az ");
        reads(twos(27, 0, 28, 0), "a0");
        reads(twos(28, 10, 11, 12, 24, 26), "&\r\t^ ");
        reads(twos(28, 25, 0, 28, 29, 0), ";'A");
        reads(twos(28, 27, 3, 28, 28, 3), "dD");
        reads(twos(28, 25, 15, 29, 27, 0), "\na");
        reads(codewords(27 * 30, 900, 0), "aAA");
        reads(codewords(28 * 30 + 25, 0, 900, 0), ";;AA");
    }

    private static void textAlone() {
        reads(twos(29, 0, 0, 1), ";AB");
        reads(twos(27, 0, 27, 1, 2, 3), "aBcd");
        reads(twos(27, 0, 27, 26, 2, 3), "a cd");
        reads(twos(27, 29, 28, 0), "'a");
        reads(twos(28, 29, 10, 1), "!1");
        reads(twos(0, 29, 29, 1), "AB");
        reads(twos(27, 29, 29, 1), "b");
        reads(twos(28, 29, 29, 1), "1");
        reads(twos(27, 27, 27, 1), "b");
        reads(twos(27, 27, 28, 1), "b");
        reads(twos(27, 27, 29, 1), "b");
        reads(twos(0, 29), "A");
        reads(twos(27, 27), "");
        reads(codewords(29, 29), "A;");
        reads(codewords(29, 913, 200, 1), "A\u00c8AB");
        reads(codewords(29, 900, 1), "AAB");
        reads(codewords(29, 901, 7, 900, 1), "A\u0007AB");
        reads(codewords(27 * 30 + 27, 913, 65, 1), "Aab");
        reads(codewords(27 * 30 + 27, 902, 15, 900, 1), "5AB");
    }

    private static void bytesAlone() {
        reads(codewords(913, 0), "\0");
        reads(codewords(913, 255, 913, 254), "\u00ff\u00fe");
        reads(codewords(27 * 30, 913, 9, 32), "a\tbc");
        reads(codewords(28 * 30 + 25, 913, 9, 32), "\t<>");
        faultAt(2, 913, 256);
        faultAt(2, 913, 899);
        faultAt(2, 913, 900);
        faultAt(2, 913, 900, 900);
        faultAt(2, 913, 913, 1);
        faultAt(2, 913);
        faultAt(4, 1, 1, 913);
        for (int before = 0; before < 60; before++) {
            // The first check, which comes behind 913 here, is a byte's codeword in some of these.
            faultAt(3, before, 913);
        }
        faultAt(4, 1, 913, 255, 928);
        faultAt(2, 901, 913, 1);
        faultAt(2, 924, 913, 1);
        faultAt(2, 902, 913, 1);
        faultAt(3, 902, 1, 913, 1);
    }

    private static void bytes() {
        int[] highest = {429, 11, 71, 222, 855};
        String six = "\u00ff".repeat(6);
        reads(codewords(901), "");
        reads(codewords(924), "");
        reads(codewords(901, 0, 255), "\0\u00ff");
        reads(codewords(901, 1, 2, 3, 4, 5), "\u0001\u0002\u0003\u0004\u0005");
        reads(codewords(924, 1, 2, 3, 4), "\u0001\u0002\u0003\u0004");
        reads(codewords(924, 429, 11, 71, 222, 855), six);
        reads(codewords(901, 429, 11, 71, 222, 855, 7), six + "\u0007");
        reads(codewords(924, 429, 11, 71, 222, 855, 7), six + "\u0007");
        reads(codewords(924, 0, 0, 0, 0, 255, 0, 0, 0, 1, 0), "\0\0\0\0\0\u00ff\0\0\0\0\u0003\u0084");
        reads(codewords(901, 0, 0, 0, 0, 255, 0, 0, 0, 1, 0), "\0\0\0\0\0\u00ff\0\0\0\u0001\0");
        reads(codewords(901, 0, 0, 0, 0, 1, 0, 0, 0, 0, 2, 3), "\0\0\0\0\0\u0001\0\0\0\0\0\u0002\u0003");
        reads(codewords(901, 1, 2, 3, 901, 4, 5, 6), "\u0001\u0002\u0003\u0004\u0005\u0006");
        reads(codewords(901, 1, 2, 3, 4, 5, 924, 0, 0, 0, 0, 6), "\u0001\u0002\u0003\u0004\u0005\0\0\0\0\0\u0006");
        reads(codewords(901, 1, 2, 3, 4, 5, 900, 1), "\u0001\u0002\u0003\u0004\u0005AB");
        faultAt(2, 901, highest);
        faultAt(2, 901, 256);
        faultAt(4, 901, 1, 2, 256);
        faultAt(7, 901, 0, 0, 0, 0, 1, 899);
        faultAt(3, 924, 0, 899);
        faultAt(2, 924, 429, 11, 71, 222, 856);
        faultAt(2, 901, 429, 11, 71, 222, 856, 0);
        faultAt(7, 924, 0, 0, 0, 0, 1, 899, 899, 899, 899, 899);
        faultAt(8, 901, 0, 0, 0, 0, 1, 7, 300, 0, 0, 0);
    }

    private static void faultAt(int at, int way, int[] codewords) {
        int[] all = new int[codewords.length + 1];
        all[0] = way;
        System.arraycopy(codewords, 0, all, 1, codewords.length);
        faultAt(at, all);
    }

    private static void digits() {
        reads(codewords(902), "");
        reads(codewords(902, 1), "");
        reads(codewords(902, 10), "0");
        reads(codewords(902, 19, 900, 0), "9AA");
        reads(codewords(902, 1, 100), "000");
        reads(codewords(902, 0, 0, 17), "7");
        reads(codewords(902, 0, 0, 0, 0, 0, 0, 0, 0, 0, 0, 0, 0, 0, 0, 17, 18), "78");
        reads(codewords(902, 17, 902, 18), "78");
        int[] zeros = Tools.codewordsOf(Tools.withTape("0".repeat(44)));
        Expect.equal("44 zeros have 15", zeros.length, 16);
        reads(zeros, "0".repeat(44));
        faultAt(2, 902, 0);
        faultAt(2, 902, 2);
        faultAt(2, 902, 899);
        faultAt(2, 902, 0, 20);
        faultAt(17, 902, 0, 0, 0, 0, 0, 0, 0, 0, 0, 0, 0, 0, 0, 0, 17, 20);
        faultAt(2, 902, 899, 899, 899, 899, 899, 899, 899, 899, 899, 899, 899, 899, 899, 899, 899);
        faultAt(4, 902, 17, 902, 2);
    }

    private static void filling() {
        reads(codewords(1, 900, 900, 900), "AB");
        reads(codewords(900, 900), "");
        reads(codewords(901, 5, 900, 900), "\u0005");
        reads(codewords(924, 900), "");
        reads(codewords(902, 15, 900, 900), "5");
        reads(codewords(900, 1, 900, 1, 900), "ABAB");
    }

    /** The latest solve() alone counts: an earlier fault 5 leaves nothing behind. */
    private static void faultsBehindFault5() {
        Rows x = faultAt(3, 1, 1, 903);
        x.put(0, 1, StackedRows.LOST);
        Expect.equal("solve", x.solve(), -1);
        Expect.equal("fault 3 behind fault 5", Tools.solvedOf(x), 3, 0, 0, 0);
        x = faultAt(3, 1, 1, 903);
        Tools.handRow(x, 0, 1, 2, 1, 903);
        Expect.equal("solve", x.solve(), -1);
        Expect.equal("fault 4 behind fault 5", Tools.solvedOf(x), 4, 0, 0, 0);
        x = faultAt(3, 1, 1, 903);
        x.put(0, 0, 29);
        x.put(1, 2, 29);
        x.put(3, 0, 59);
        x.put(4, 2, 59);
        Expect.equal("solve", x.solve(), -1);
        Expect.equal("fault 2 behind fault 5", Tools.solvedOf(x), 2, 0, 0, 0);
        x = faultAt(3, 1, 1, 903);
        x.blank(3, 1);
        Expect.equal("solve", x.solve(), -1);
        Expect.equal("fault 1 behind fault 5", Tools.solvedOf(x), 1, 0, 0, 0);
    }

    private static void noSuchCodewords() {
        for (int codeword = 903; codeword <= 928; codeword++) {
            if (codeword == 924) {
                continue;
            }
            if (codeword != 913) {
                faultAt(1, codeword, 1);
                faultAt(2, 1, codeword);
            }
            faultAt(3, 901, 1, codeword);
            faultAt(7, 924, 0, 0, 0, 0, 1, codeword);
            faultAt(3, 902, 1, codeword);
        }
        faultAt(2, 1, 903, 904);
    }

    /** 1200 bytes of text are 600 codewords; in 28 columns thirteen of filling come behind them, to be written over. */
    private static Rows fullAndMore(int... more) {
        int[] data = new int[614];
        java.util.Arrays.fill(data, 601, 614, 900);
        data[0] = 614;
        System.arraycopy(more, 0, data, 601, more.length);
        int[] row = Tools.withChecks(data, 2);
        Rows x = Tools.made("A".repeat(1200), 0, 28);
        for (int i = 601; i < 616; i++) {
            Tools.putCodeword(x, i, row[i]);
        }
        x.end(1);
        return x;
    }

    private static void tooManyBytes() {
        Rows x = fullAndMore();
        Expect.equal("1200 bytes", x.solve(), 1200);
        Expect.equal("the last", x.byteAt(1199), 65);
        Expect.thrown("byte 1200", IndexOutOfBoundsException.class, () -> x.byteAt(1200));
        Rows nothingMore = fullAndMore(29 * 30 + 29, 901, 902, 924, 900);
        Expect.equal("1200 bytes, and numbers that are nothing", nothingMore.solve(), 1200);
        tooMany("1201 bytes", 0 * 30 + 29);
        tooMany("1201 bytes by 913", 913, 0);
        tooMany("1201 bytes by 901", 901, 0);
        tooMany("1201 bytes by 902", 902, 10);
        tooMany("1202 bytes", 0);
        tooMany("1206 bytes by 924", 924, 0, 0, 0, 0, 0);
        faultBehindFull(601, 903);
        faultBehindFull(602, 913);
        faultBehindFull(604, 0, 0, 0, 903);
    }

    private static void tooMany(String what, int... more) {
        Rows x = fullAndMore(more);
        Expect.thrown(what, UnsupportedOperationException.class, x::solve);
        Expect.equal("the tape stays", Tools.tapeOf(x), 65);
        Expect.equal("solved stays", Tools.solvedOf(x), 0, 0, 0, 0);
    }

    private static void faultBehindFull(int at, int... more) {
        Rows x = fullAndMore(more);
        Expect.equal("a fault behind 1200 bytes", x.solve(), -1);
        Expect.equal("its number", Tools.solvedOf(x), 5, at, 0, 0);
        Expect.equal("the tape stays", Tools.tapeOf(x), 65);
    }

    /** What is written is read again, whatever bytes it is. */
    private static void roundTrips() {
        Tools.Dice dice = new Tools.Dice(3);
        for (int round = 0; round < 1500; round++) {
            int[] bytes = someBytes(dice, dice.below(round % 50 == 0 ? 1000 : 60));
            int written = Tools.withTape(bytes).codewords();
            if (written <= 900) {
                roundTrip("round " + round, bytes, written);
            }
        }
    }

    private static void roundTrip(String what, int[] bytes, int written) {
        Supplier<Rows> again = () -> {
            Rows x = Tools.withTape(bytes);
            x.make(0, 1 + written / 60);
            x.end(0);
            Expect.equal(what, x.solve(), bytes.length);
            return x;
        };
        Expect.equal(what, Tools.tapeOf(again), bytes);
        Expect.equal(what, again.get().codewords(), written);
    }

    private static int[] someBytes(Tools.Dice dice, int length) {
        String[] kinds = {"0123456789", "ABC XYZ", "abc xyz", "0:#-/^ &", ";<>'\n,.", "aB1;\r\t", "\u0080\u00ff\0\u007f",
            "a1;\u0080"};
        int[] bytes = new int[length];
        int left = 0;
        String kind = kinds[0];
        for (int i = 0; i < length; i++) {
            if (left == 0) {
                kind = kinds[dice.below(kinds.length)];
                left = 1 + dice.below(dice.below(4) == 0 ? 60 : 8);
            }
            bytes[i] = kind.charAt(dice.below(kind.length()));
            left--;
        }
        return bytes;
    }
}
