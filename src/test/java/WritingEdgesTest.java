import java.math.BigInteger;
import java.util.ArrayList;
import java.util.Arrays;
import java.util.List;

/** Promises 5 and 6: each boundary that the document names for how bytes are written, on both sides. */
public final class WritingEdgesTest {
    private static final String THIRTEEN = "1234567890123";
    private static final int[] THIRTEEN_WRITTEN = {902, 17, 110, 836, 811, 223};
    private static final String TWELVE = "123456789012";
    private static final int[] TWELVE_WRITTEN = {841, 63, 125, 187, 249, 1, 89};

    public static void main(String[] args) {
        whatIsADigit();
        whatIsText();
        twelveOrThirteenDigits();
        digitsEndText();
        fourOrFiveOfText();
        allThatIsLeft();
        bytesUpToTextOrDigits();
        oneByteAlone();
        multiplesOfSix();
        sixBytesAtTheirEnds();
        wayIsText();
        setBehindAnotherWay();
        oneOrTwoSigns();
        blanks();
        oneNumberIsLeft();
        signsAndOneNumberLeft();
        digitsByFortyFours();
        leftDigits();
        emptyAndFull();
        indexes();
        followsTheTape();
        Expect.finish("WritingEdgesTest");
    }

    private static int[] codewords(String text) {
        return Tools.codewordsOf(() -> Tools.withTape(text));
    }

    private static void written(String text, int... due) {
        Expect.equal("codewords of " + text, codewords(text), due);
    }

    private static int[] of(int... codewords) {
        return codewords;
    }

    private static int[] joined(int[]... parts) {
        List<Integer> all = new ArrayList<>();
        for (int[] part : parts) {
            for (int codeword : part) {
                all.add(codeword);
            }
        }
        return all.stream().mapToInt(Integer::intValue).toArray();
    }

    /** Codewords of numbers of text, an even count of them. */
    private static int[] twos(int... numbers) {
        int[] codewords = new int[numbers.length / 2];
        for (int i = 0; i < codewords.length; i++) {
            codewords[i] = 30 * numbers[2 * i] + numbers[2 * i + 1];
        }
        return codewords;
    }

    /** "Digits (48 .. 57)": each byte as the 13th one. */
    private static void whatIsADigit() {
        for (int b = 0; b < 256; b++) {
            boolean digit = b >= 48 && b <= 57;
            Expect.equal("12 digits and " + b, codewords(TWELVE + (char) b)[0], digit ? 902 : 841);
        }
    }

    /** "Bytes that are 9, 10, 13 or 32 .. 126": each byte as the fifth one of text, and as all there is. */
    private static void whatIsText() {
        for (int b = 0; b < 256; b++) {
            boolean text = b == 9 || b == 10 || b == 13 || b >= 32 && b <= 126;
            Expect.equal("ABCD, " + b, codewords("ABCD" + (char) b + "\u0080\u0080")[0], text ? 1 : 901);
            int[] alone = codewords("" + (char) b);
            Expect.isTrue("alone " + b, text != Arrays.equals(alone, of(913, b)));
        }
    }

    /** "If D is 13 or more". */
    private static void twelveOrThirteenDigits() {
        written(THIRTEEN, THIRTEEN_WRITTEN);
        written(TWELVE, TWELVE_WRITTEN);
        written("\u0080" + THIRTEEN, joined(of(913, 128), THIRTEEN_WRITTEN));
        written("\u0080" + TWELVE, joined(of(913, 128), TWELVE_WRITTEN));
        written(THIRTEEN + "\u0080" + TWELVE + "\u0080", joined(THIRTEEN_WRITTEN, of(901, 128, 900), TWELVE_WRITTEN, of(913, 128)));
        written(THIRTEEN + "\u0080" + THIRTEEN, joined(THIRTEEN_WRITTEN, of(901, 128), THIRTEEN_WRITTEN));
        Expect.equal("14 digits", codewords(THIRTEEN + "4")[0], 902);
    }

    /** T is "up to .. where 13 digits come one after another", but goes on over 12. */
    private static void digitsEndText() {
        int[] abcde = twos(27, 0, 1, 2, 3, 4);
        written("abcde" + THIRTEEN, joined(abcde, THIRTEEN_WRITTEN));
        written("abcd" + THIRTEEN, joined(of(901, 97, 98, 99, 100), THIRTEEN_WRITTEN));
        written("abcde" + TWELVE, joined(abcde, TWELVE_WRITTEN));
        written("abcd" + TWELVE, twos(27, 0, 1, 2, 3, 28, 1, 2, 3, 4, 5, 6, 7, 8, 9, 0, 1, 2));
        written("abcd" + TWELVE + "a", joined(twos(27, 0, 1, 2, 3, 28, 1, 2, 3, 4, 5, 6, 7, 8, 9, 0, 1, 2), of(27 * 30)));
        written(THIRTEEN + "abcd" + THIRTEEN, joined(THIRTEEN_WRITTEN, of(901, 97, 98, 99, 100), THIRTEEN_WRITTEN));
        written(THIRTEEN + "abcde" + THIRTEEN, joined(THIRTEEN_WRITTEN, of(900), abcde, THIRTEEN_WRITTEN));
    }

    /** "If T is 5 or more". */
    private static void fourOrFiveOfText() {
        written("ABCD\u0080", 901, 65, 66, 67, 68, 128);
        written("ABCDE\u0080", 1, 63, 149, 913, 128);
        written("\u0080\u0081ABCD\u0082", 901, 215, 317, 50, 553, 448, 130);
        written("\u0080\u0081ABCDE\u0082", 901, 128, 129, 900, 1, 63, 149, 913, 130);
        written("A\u0080", 901, 65, 128);
        written("\u0080A", 901, 128, 65);
    }

    /** "Or all that is left are these T bytes (T = 0 not)". */
    private static void allThatIsLeft() {
        written("A", 29);
        written("AB", 1);
        written("ABC", 1, 89);
        written("ABCD", 1, 63);
        written(THIRTEEN + "A", joined(THIRTEEN_WRITTEN, of(900, 29)));
        written(THIRTEEN + "ABCD", joined(THIRTEEN_WRITTEN, of(900, 1, 63)));
        written(THIRTEEN + "ABCD\u0080", joined(THIRTEEN_WRITTEN, of(901, 65, 66, 67, 68, 128)));
        written("ABCDE\u0080ABCD", 1, 63, 149, 901, 128, 65, 66, 67, 68);
        written(THIRTEEN, THIRTEEN_WRITTEN);
        written("\u0080", 913, 128);
        written("ABCDE\u0080", 1, 63, 149, 913, 128);
    }

    /** B is "up to the next place behind it of which D is 13 or more, or T 5 or more, or to the end". */
    private static void bytesUpToTextOrDigits() {
        written("\u0080ABCD", 901, 128, 65, 66, 67, 68);
        written("\u0080ABCD\u0080ABCD\u0080", 901, 214, 840, 15, 871, 372, 65, 66, 67, 68, 128);
        written("\u0080\u0080ABCD\u0080ABCDE", 901, 215, 311, 148, 167, 552, 128, 900, 1, 63, 149);
        written("\u0080\u0080A" + THIRTEEN, joined(of(901, 128, 128, 65), THIRTEEN_WRITTEN));
        written("\u0080\u00801234\u0080", 901, 215, 310, 715, 436, 308, 128);
        written("A" + THIRTEEN, joined(of(913, 65), THIRTEEN_WRITTEN));
    }

    /** "One alone, when the way is text: 913 and the byte"; two, or another way, not. */
    private static void oneByteAlone() {
        written("\u0000", 913, 0);
        written("\u00ff", 913, 255);
        written("\u0080\u0081", 901, 128, 129);
        written("ABCDE\u0080\u0081", 1, 63, 149, 901, 128, 129);
        written("\u0080ABCDE\u0081ABCDE", 913, 128, 1, 63, 149, 913, 129, 1, 63, 149);
        written(THIRTEEN + "\u0080", joined(THIRTEEN_WRITTEN, of(901, 128)));
        written("\u0080" + THIRTEEN + "\u0081", joined(of(913, 128), THIRTEEN_WRITTEN, of(901, 129)));
        written("ABCDE\u0080" + THIRTEEN, joined(of(1, 63, 149, 913, 128), THIRTEEN_WRITTEN));
    }

    /** "924, if they are a multiple of 6, else 901". */
    private static void multiplesOfSix() {
        for (int n = 2; n <= 25; n++) {
            int[] all = codewords("\u0080".repeat(n));
            Expect.equal(n + " bytes", all[0], n % 6 == 0 ? 924 : 901);
            Expect.equal(n + " bytes", all.length, 1 + n / 6 * 5 + n % 6);
            int[] behind = codewords(THIRTEEN + "\u0080".repeat(n));
            Expect.equal(n + " bytes behind digits", behind[6], n % 6 == 0 ? 924 : 901);
        }
        Expect.equal("1200 bytes", codewords("\u0080".repeat(1200))[0], 924);
        Expect.equal("1200 bytes", codewords("\u0080".repeat(1200)).length, 1001);
        Expect.equal("1199 bytes", codewords("\u0080".repeat(1199))[0], 901);
    }

    /** "Each six are one number (the first byte highest), that is five codewords (base 900, the highest first)". */
    private static void sixBytesAtTheirEnds() {
        written("\0\0\0\0\0\0", 924, 0, 0, 0, 0, 0);
        written("\0\0\0\0\0\u0001", 924, 0, 0, 0, 0, 1);
        written("\0\0\0\0\u0003\u0083", 924, 0, 0, 0, 0, 899);
        written("\0\0\0\0\u0003\u0084", 924, 0, 0, 0, 1, 0);
        written("\u0001\0\0\0\0\0", 924, 1, 608, 221, 686, 376);
        written("\u00ff\u00ff\u00ff\u00ff\u00ff\u00ff", 924, 429, 11, 71, 222, 855);
        written("\0\0\0\0\0\u0001\u0002", 901, 0, 0, 0, 0, 1, 2);
        written("\0\0\0\0\0\u0001\u00ff\u00fe\u00fd\u00fc\u00fb", 901, 0, 0, 0, 0, 1, 255, 254, 253, 252, 251);
    }

    /** "900, if the way is not text"; "the way stays what it is behind 913". */
    private static void wayIsText() {
        written("ABCDE", 1, 63, 149);
        written("\u0080ABCDE", 913, 128, 1, 63, 149);
        written("\u0080\u0081ABCDE", 901, 128, 129, 900, 1, 63, 149);
        written("\u0080\u0081\u0082\u0083\u0084\u0085ABCDE", 924, 215, 318, 502, 193, 33, 900, 1, 63, 149);
        written(THIRTEEN + "ABCDE", joined(THIRTEEN_WRITTEN, of(900, 1, 63, 149)));
        written("\u0080" + THIRTEEN + "ABCDE", joined(of(913, 128), THIRTEEN_WRITTEN, of(900, 1, 63, 149)));
    }

    /** "Text begins with capitals then, and where it is the first way"; "text goes on with the set that it had" behind 913. */
    private static void setBehindAnotherWay() {
        int[] abcde = twos(27, 0, 1, 2, 3, 4);
        written("abcde\u0080abcde", joined(abcde, of(913, 128), twos(0, 1, 2, 3, 4, 29)));
        written("abcde\u0080\u0081abcde", joined(abcde, of(901, 128, 129, 900), abcde));
        written("abcde" + THIRTEEN + "abcde", joined(abcde, THIRTEEN_WRITTEN, of(900), abcde));
        written("11111\u008011111", joined(twos(28, 1, 1, 1, 1, 1), of(913, 128), twos(1, 1, 1, 1, 1, 29)));
        written("\u0080abcde", joined(of(913, 128), abcde));
    }

    /** "25, if the byte behind it (of these T) is a sign, too, else 29 and its number". */
    private static void oneOrTwoSigns() {
        written("111;1", twos(28, 1, 1, 1, 29, 0, 1, 29));
        written("111;;", twos(28, 1, 1, 1, 25, 0, 0, 29));
        written("111;", twos(28, 1, 1, 1, 29, 0));
        written("1111;\u0080;;;;;", joined(twos(28, 1, 1, 1, 1, 29, 0, 29), of(913, 128),
                twos(25, 0, 0, 0, 0, 0)));
        written("111;,11", twos(28, 1, 1, 1, 25, 0, 13, 29, 28, 1, 1, 29));
        written("111;\r", twos(28, 1, 1, 1, 25, 0, 11, 29));
        written("111;#", twos(28, 1, 1, 1, 29, 0, 15, 29));
        written("111;A", twos(28, 1, 1, 1, 29, 0, 28, 0));
        written("111; ", twos(28, 1, 1, 1, 29, 0, 26, 29));
        written("111,;", twos(28, 1, 1, 1, 13, 29, 0, 29));
        written("1111;" + THIRTEEN, joined(twos(28, 1, 1, 1, 1, 29, 0, 29), THIRTEEN_WRITTEN));
        written("AA;;A", twos(0, 0, 29, 0, 29, 0, 0, 29));
        written("aa;;a", twos(27, 0, 0, 29, 0, 29, 0, 0));
    }

    /** "A blank is of capitals, small and mixed alike", but not of signs. */
    private static void blanks() {
        written(" ", twos(26, 29));
        written("A a ", twos(0, 26, 27, 0, 26, 29));
        written("1 1", twos(28, 1, 26, 1));
        written("1;; ;", twos(28, 1, 25, 0, 0, 29, 26, 29, 0, 29));
    }

    /** "If one is left, the second one is 29". */
    private static void oneNumberIsLeft() {
        written("A", twos(0, 29));
        written("AA", twos(0, 0));
        written("a", twos(27, 0));
        written("aa", twos(27, 0, 0, 29));
        written("1", twos(28, 1));
        written("11", twos(28, 1, 1, 29));
        written("A;", twos(0, 29, 0, 29));
        written("AA;", twos(0, 0, 29, 0));
        written("AAAAA\u0080AAAAA", joined(twos(0, 0, 0, 0, 0, 29), of(913, 128), twos(0, 0, 0, 0, 0, 29)));
        written("AAAAA\u0080aaaaa", joined(twos(0, 0, 0, 0, 0, 29), of(913, 128), twos(27, 0, 0, 0, 0, 0)));
    }

    /** "With signs that is the change to capitals, also for what comes behind"; without one left it stays with signs. */
    private static void signsAndOneNumberLeft() {
        int[] left = joined(twos(28, 1, 1, 1, 25, 0, 0, 29), of(913, 128));
        written("111;;\u0080AAAAA", joined(left, twos(0, 0, 0, 0, 0, 29)));
        written("111;;\u0080;;;;;", joined(left, twos(29, 0, 29, 0, 29, 0, 29, 0, 29, 0)));
        int[] none = joined(twos(28, 1, 1, 25, 0, 0, 0, 0), of(913, 128));
        written("11;;;;\u0080AAAAA", joined(none, twos(29, 0, 0, 0, 0, 0)));
        written("11;;;;\u0080;;;;;", joined(none, twos(0, 0, 0, 0, 0, 29)));
        written("11;;;;\u0080;;;;", joined(twos(28, 1, 1, 25, 0, 0, 0, 0), of(901, 128, 59, 59, 59, 59)));
    }

    private static int[] number(String digits) {
        BigInteger left = new BigInteger("1" + digits);
        List<Integer> cells = new ArrayList<>();
        while (left.signum() > 0) {
            cells.add(0, left.mod(BigInteger.valueOf(900)).intValue());
            left = left.divide(BigInteger.valueOf(900));
        }
        return cells.stream().mapToInt(Integer::intValue).toArray();
    }

    /** "Each 44, and what is left": 43 to 46 and the like, with the least and the greatest numbers. */
    private static void digitsByFortyFours() {
        Expect.equal("of 44 it is 15", number("0".repeat(44)).length, 15);
        Expect.equal("of 44 it is 15", number("9".repeat(44)).length, 15);
        for (int n : new int[] {43, 44, 45, 46, 87, 88, 89, 132}) {
            for (char digit = '0'; digit <= '9'; digit++) {
                String digits = ("" + digit).repeat(n);
                int[] due = of(902);
                for (int at = 0; at < n; at += 44) {
                    due = joined(due, number(digits.substring(at, Math.min(at + 44, n))));
                }
                written(digits, due);
                written(digits + "\u0080", joined(due, of(901, 128)));
            }
        }
    }

    /** "As many codewords as it takes": one, two and three digits that are left behind 44, about the limits of 900. */
    private static void leftDigits() {
        String zeros = "0".repeat(44);
        int[] before = joined(of(902), number(zeros));
        written(zeros + "0", joined(before, of(10)));
        written(zeros + "9", joined(before, of(19)));
        written(zeros + "00", joined(before, of(100)));
        written(zeros + "99", joined(before, of(199)));
        written(zeros + "000", joined(before, of(1, 100)));
        written(zeros + "800", joined(before, of(2, 0)));
        written(zeros + "799", joined(before, of(1, 899)));
        written(zeros + "99999", joined(before, of(222, 199)));
        written(zeros + "000000", joined(before, of(1, 211, 100)));
    }

    /** "An empty tape" has none; a full one is written whole. */
    private static void emptyAndFull() {
        Expect.equal("none", new Rows().codewords(), 0);
        Expect.equal("1200 letters", codewords("A".repeat(1200)), new int[600]);
        Expect.equal("1200 digits", codewords("0".repeat(1200)).length, 1 + 27 * 15 + 5);
        Expect.equal("600 changes", codewords("a1".repeat(600)).length, 1200);
        Expect.equal("1199 letters", codewords("A".repeat(1199))[599], 29);
        Expect.equal("the last of 1200", codewords("A".repeat(1199) + "\u0080"), joined(new int[599], of(29, 913, 128)));
    }

    /** Promise 6: codewords 0 .. codewords() - 1. */
    private static void indexes() {
        for (String text : new String[] {"", "A", "ABCDE", "\u0080\u0081", THIRTEEN, "A".repeat(1200)}) {
            Rows x = Tools.withTape(text);
            int size = x.codewords();
            for (int k : new int[] {-1, size, size + 1, 2399, 2400, Integer.MIN_VALUE, Integer.MAX_VALUE}) {
                Expect.thrown("codeword(" + k + ") of " + text, IndexOutOfBoundsException.class, () -> x.codeword(k));
            }
            if (size > 0) {
                Expect.isTrue("the first and the last", x.codeword(0) >= 0 && x.codeword(size - 1) >= 0);
            }
            Expect.equal("size behind", x.codewords(), size);
        }
    }

    /** What is written is of the tape as it is now: behind feed, end, solve, and behind a symbol that is made. */
    private static void followsTheTape() {
        Rows x = new Rows();
        Expect.equal("none", x.codewords(), 0);
        x.feed(0x41414141, 0x41414141, 0x41414141, 0x41414141, 0x41414141);
        Expect.equal("behind feed", Tools.codewordsOf(x), new int[10]);
        x.make(0, 4);
        Expect.equal("behind make", Tools.codewordsOf(x), new int[10]);
        x.end(3);
        Expect.equal("behind end", Tools.codewordsOf(x), 0, 29);
        x.solve();
        Expect.equal("behind solve", Tools.codewordsOf(x), new int[10]);
        x.end(0);
        x.blank(3, 1);
        x.solve();
        Expect.equal("behind a fault", x.codewords(), 0);
    }
}
