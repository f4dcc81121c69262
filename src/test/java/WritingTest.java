import java.math.BigInteger;
import java.util.ArrayList;
import java.util.List;

/** Promises 5 and 6: how bytes are written as codewords. */
public final class WritingTest {
    public static void main(String[] args) {
        sets();
        textChanges();
        textPadding();
        ways();
        waysBesideText();
        bytes();
        digits();
        limits();
        Expect.finish("WritingTest");
    }

    private static void written(String text, int... due) {
        Expect.equal("codewords of " + text, Tools.codewordsOf(() -> Tools.withTape(text)), due);
    }

    /** Codewords of numbers of text. */
    private static int[] twos(int... numbers) {
        int[] codewords = new int[(numbers.length + 1) / 2];
        for (int i = 0; i < codewords.length; i++) {
            codewords[i] = 30 * numbers[2 * i] + (2 * i + 1 < numbers.length ? numbers[2 * i + 1] : 29);
        }
        return codewords;
    }

    private static void text(String text, int... numbers) {
        written(text, twos(numbers));
    }

    private static void sets() {
        text("AZ ", 0, 25, 26);
        text("az ", 27, 0, 25, 26);
        text("0123456789&\r\t,:#-.$/+%*=^ ", 28, 0, 1, 2, 3, 4, 5, 6, 7, 8, 9, 10, 11, 12, 13, 14, 15, 16, 17, 18, 19, 20,
                21, 22, 23, 24, 26);
        text("1;<>@[\\]_`~!\r\t,:\n-.$/\"|*()?{}'", 28, 1, 25, 0, 1, 2, 3, 4, 5, 6, 7, 8, 9, 10, 11, 12, 13, 14, 15, 16, 17,
                18, 19, 20, 21, 22, 23, 24, 25, 26, 27, 28);
    }

    private static void textChanges() {
        text("A;B", 0, 29, 0, 1);
        text("A\nB", 0, 29, 15, 1);
        text("aBc", 27, 0, 27, 1, 2);
        text("aB", 27, 0, 27, 1);
        text("a B", 27, 0, 26, 27, 1);
        text("a;b", 27, 0, 29, 0, 1);
        text("a1B", 27, 0, 28, 1, 28, 1);
        text("A1b", 0, 28, 1, 27, 1);
        text("1 2", 28, 1, 26, 2);
        text("A,B", 0, 28, 13, 28, 1);
        text("1;2", 28, 1, 29, 0, 2);
        text("1;", 28, 1, 29, 0);
        text("1;;2", 28, 1, 25, 0, 0, 29, 28, 2);
        text("1;,2", 28, 1, 25, 0, 13, 29, 28, 2);
        text("1;A", 28, 1, 29, 0, 28, 0);
        text("1;;A", 28, 1, 25, 0, 0, 29, 0);
        text("1;;a", 28, 1, 25, 0, 0, 29, 27, 0);
        text("1;; a", 28, 1, 25, 0, 0, 29, 26, 27, 0);
    }

    private static void textPadding() {
        text("A", 0, 29);
        text("AB", 0, 1);
        written("ABCDE\u0080ABCDE", 1, 63, 4 * 30 + 29, 913, 128, 1, 63, 4 * 30 + 29);
        written("abcde\u0080abcde", 27 * 30, 32, 94, 913, 128, 1, 63, 4 * 30 + 29);
        written("11;;;\u0080;;;;;", 28 * 30 + 1, 1 * 30 + 25, 0, 29, 913, 128, 29 * 30, 29 * 30, 29 * 30, 29 * 30, 29 * 30);
        written("111;;\u0080;;;;;", 28 * 30 + 1, 31, 25 * 30, 29, 913, 128, 29 * 30, 29 * 30, 29 * 30, 29 * 30, 29 * 30);
        int[] endsInSigns = {28 * 30 + 1, 1 * 30 + 25, 0, 0, 913, 128};
        written("11;;;;\u0080;;;;;", joined(endsInSigns, new int[] {0, 0, 29}));
        written("11;;;;\u0080a1a1a", joined(endsInSigns, twos(29, 27, 0, 28, 1, 27, 0, 28, 1, 27, 0)));
    }

    private static void ways() {
        written("");
        written("abcd", 27 * 30, 32, 3 * 30 + 29);
        written("abcd\u0080", 901, 97, 98, 99, 100, 128);
        written("abcde\u0080", 27 * 30, 32, 94, 913, 128);
        written("\u0080", 913, 128);
        written("\u0080\u0081", 901, 128, 129);
        written("\u0080a", 901, 128, 97);
        written("\u0080abcd", 901, 128, 97, 98, 99, 100);
        written("\u0080abcde", 913, 128, 27 * 30, 32, 94);
        written("\u0080\u0081abcde", 901, 128, 129, 900, 27 * 30, 32, 94);
        written("abcde\u0080\u0081", 27 * 30, 32, 94, 901, 128, 129);
        written("abcde\u0080fghij\u0081", 27 * 30, 32, 94, 913, 128, 5 * 30 + 6, 7 * 30 + 8, 9 * 30 + 29, 913, 129);
        written("\u007fABCDE\u001fABCDE\u000bABCDE\0", 913, 127, 1, 63, 149, 913, 31, 1, 63, 149, 913, 11, 1, 63, 149, 913, 0);
    }

    private static void waysBesideText() {
        String thirteen = "1234567890123";
        written(thirteen, digitsOf(thirteen));
        Expect.equal("13 digits are five codewords behind 902", digitsOf(thirteen).length, 6);
        written("123456789012", twos(28, 1, 2, 3, 4, 5, 6, 7, 8, 9, 0, 1, 2));
        written("abcd" + thirteen, joined(new int[] {901, 97, 98, 99, 100}, digitsOf(thirteen)));
        written("a" + thirteen, joined(new int[] {913, 97}, digitsOf(thirteen)));
        written("abcde" + thirteen, joined(new int[] {810, 32, 94}, digitsOf(thirteen)));
        written(thirteen + "a", joined(digitsOf(thirteen), new int[] {900, 810}));
        written(thirteen + "a\u0080", joined(digitsOf(thirteen), new int[] {901, 97, 128}));
        written(thirteen + "\u0080", joined(digitsOf(thirteen), new int[] {901, 128}));
        written(thirteen + "\u0080" + thirteen, joined(joined(digitsOf(thirteen), new int[] {901, 128}), digitsOf(thirteen)));
        written(thirteen + "abcde", joined(digitsOf(thirteen), new int[] {900, 810, 32, 94}));
        written("\u0080\u0081" + thirteen, joined(new int[] {901, 128, 129}, digitsOf(thirteen)));
        written("abcd123456789012\u0080", joined(twos(27, 0, 1, 2, 3, 28, 1, 2, 3, 4, 5, 6, 7, 8, 9, 0, 1, 2),
                new int[] {913, 128}));
    }

    private static void bytes() {
        for (int n = 2; n <= 31; n++) {
            int[] bytes = new int[n];
            for (int i = 0; i < n; i++) {
                bytes[i] = 128 + i * 37 % 128;
            }
            Expect.equal(n + " bytes", Tools.codewordsOf(Tools.withTape(bytes)), bytesWritten(bytes));
        }
        written("\u00ff".repeat(6), 924, 429, 11, 71, 222, 855);
        written("\0".repeat(6), 924, 0, 0, 0, 0, 0);
    }

    private static int[] bytesWritten(int[] bytes) {
        List<Integer> due = new ArrayList<>();
        due.add(bytes.length % 6 == 0 ? 924 : 901);
        int at = 0;
        for (; at + 6 <= bytes.length; at += 6) {
            BigInteger six = BigInteger.ZERO;
            for (int i = 0; i < 6; i++) {
                six = six.shiftLeft(8).add(BigInteger.valueOf(bytes[at + i]));
            }
            for (int i = 4; i >= 0; i--) {
                BigInteger unit = BigInteger.valueOf(900).pow(i);
                due.add(six.divide(unit).mod(BigInteger.valueOf(900)).intValue());
            }
        }
        for (; at < bytes.length; at++) {
            due.add(bytes[at]);
        }
        return due.stream().mapToInt(Integer::intValue).toArray();
    }

    private static int[] digitsOf(String digits) {
        List<Integer> due = new ArrayList<>();
        due.add(902);
        for (int at = 0; at < digits.length(); at += 44) {
            BigInteger number = new BigInteger("1" + digits.substring(at, Math.min(at + 44, digits.length())));
            int first = due.size();
            while (number.signum() > 0) {
                due.add(first, number.mod(BigInteger.valueOf(900)).intValue());
                number = number.divide(BigInteger.valueOf(900));
            }
        }
        return due.stream().mapToInt(Integer::intValue).toArray();
    }

    private static void digits() {
        for (int n : new int[] {13, 14, 43, 44, 45, 46, 87, 88, 89, 132, 133, 1199, 1200}) {
            StringBuilder mixed = new StringBuilder();
            for (int i = 0; i < n; i++) {
                mixed.append((char) ('0' + i * 7 % 10));
            }
            written(mixed.toString(), digitsOf(mixed.toString()));
            written("0".repeat(n), digitsOf("0".repeat(n)));
            written("9".repeat(n), digitsOf("9".repeat(n)));
        }
        Expect.equal("44 digits are 15 codewords", digitsOf("0".repeat(44)).length, 16);
    }

    private static void limits() {
        Rows x = Tools.withTape("AB");
        Expect.equal("codeword(0)", x.codeword(0), 1);
        Expect.thrown("codeword(1)", IndexOutOfBoundsException.class, () -> x.codeword(1));
        Expect.thrown("codeword(-1)", IndexOutOfBoundsException.class, () -> x.codeword(-1));
        Expect.thrown("codeword(least)", IndexOutOfBoundsException.class, () -> x.codeword(Integer.MIN_VALUE));
        Expect.thrown("codeword(most)", IndexOutOfBoundsException.class, () -> x.codeword(Integer.MAX_VALUE));
        x.end(1);
        Expect.equal("codeword(0) follows the tape", x.codeword(0), 29);
        x.feed(0x42424242, 0x42424242, 0x42424242, 0x42424242, 0x42424242);
        Expect.equal("codewords follow the tape", x.codewords(), 11);
        x.make(0, 3);
        x.end(0);
        Expect.equal("none", x.codewords(), 0);
        x.solve();
        Expect.equal("codewords follow solve", x.codewords(), 11);
        dearest();
    }

    /** As many codewords to a byte as can be: short texts that change the set at each byte, two bytes between them. */
    private static void dearest() {
        StringBuilder text = new StringBuilder();
        while (text.length() < 1200) {
            text.append("a1a1a\u0080\u0081");
        }
        text.setLength(1200);
        int[] written = Tools.codewordsOf(() -> Tools.withTape(text.toString()));
        Expect.isTrue("many codewords", written.length > 1400);
        Expect.equal("the second way", written[5], 901);
    }

    private static int[] joined(int[] a, int[] b) {
        int[] both = java.util.Arrays.copyOf(a, a.length + b.length);
        System.arraycopy(b, 0, both, a.length, b.length);
        return both;
    }
}
