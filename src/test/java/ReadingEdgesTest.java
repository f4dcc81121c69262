import java.util.ArrayList;
import java.util.Arrays;
import java.util.List;

/** Promises 11 and 12: each boundary that the document names for how codewords are read, on both sides. */
public final class ReadingEdgesTest {
    /** What a number of the four sets is, if it is no byte. */
    private static final char TO_CAPITALS = 300;
    private static final char TO_SMALL = 301;
    private static final char TO_MIXED = 302;
    private static final char TO_SIGNS = 303;
    private static final char CAPITAL_ALONE = 304;
    private static final char SIGN_ALONE = 305;

    private static final String[] SETS = {
        "ABCDEFGHIJKLMNOPQRSTUVWXYZ " + TO_SMALL + TO_MIXED + SIGN_ALONE,
        "abcdefghijklmnopqrstuvwxyz " + CAPITAL_ALONE + TO_MIXED + SIGN_ALONE,
        "0123456789&\r\t,:#-.$/+%*=^" + TO_SIGNS + " " + TO_SMALL + TO_CAPITALS + SIGN_ALONE,
        ";<>@[\\]_`~!\r\t,:\n-.$/\"|*()?{}'" + TO_CAPITALS};
    /** Numbers that lead from capitals to each set. */
    private static final int[][] LEADS = {{}, {27}, {28}, {28, 25}};

    public static void main(String[] args) {
        everyNumberOfEachSet();
        everyNumberBehindOneAlone();
        oneAloneWithoutANumber();
        textBeginsWithCapitals();
        setIsKeptThroughByte();
        highestOfText();
        byteBehind913();
        notThere();
        runsOfBytesBy901();
        runsOfBytesBy924();
        leftBytesUpTo255();
        moreThanSixBytes();
        runsOfDigits();
        beginsWithOne();
        codewordsFrom903();
        changesOfWay();
        filling();
        firstFaultCounts();
        numbersOfFaultsInRows();
        Expect.finish("ReadingEdgesTest");
    }

    private static void reads(String due, int... codewords) {
        String what = Arrays.toString(codewords);
        Rows x = Tools.withTape(7, 7, 7);
        Tools.hand(x, 0, codewords);
        Expect.equal("solve of " + what, x.solve(), due.length());
        Expect.equal("bytes of " + what, Tools.tapeOf(x), Tools.bytesOf(due));
        Expect.equal("solved of " + what, Tools.solvedOf(x), 0, 0, 0, 0);
    }

    private static void faultAt(int at, int... codewords) {
        String what = Arrays.toString(codewords);
        Rows x = Tools.withTape(7, 7, 7);
        Tools.hand(x, 0, codewords);
        Expect.equal("solve of " + what, x.solve(), -1);
        Expect.equal("solved of " + what, Tools.solvedOf(x), 5, at, 0, 0);
        Expect.equal("the tape stays", Tools.tapeOf(x), 7, 7, 7);
    }

    /** A way, so many codewords, and what comes behind them. */
    private static int[] run(int way, int codeword, int times, int... behind) {
        int[] all = new int[1 + times + behind.length];
        Arrays.fill(all, codeword);
        all[0] = way;
        System.arraycopy(behind, 0, all, 1 + times, behind.length);
        return all;
    }

    /** The numbers, and as many of 1 behind them as it takes to be even and at least two; the set is told by these. */
    private static int[] withProbes(int[] lead, int... numbers) {
        List<Integer> all = new ArrayList<>();
        for (int number : lead) {
            all.add(number);
        }
        for (int number : numbers) {
            all.add(number);
        }
        int probes = 2 + all.size() % 2;
        for (int i = 0; i < probes; i++) {
            all.add(1);
        }
        int[] codewords = new int[all.size() / 2];
        for (int i = 0; i < codewords.length; i++) {
            codewords[i] = 30 * all.get(2 * i) + all.get(2 * i + 1);
        }
        return codewords;
    }

    private static String probes(int set, int numbers) {
        return ("" + SETS[set].charAt(1)).repeat(2 + numbers % 2);
    }

    /** What a number does in a set, with two or three numbers of 1 behind it. */
    private static String dueOf(int set, int number, int numbers) {
        char is = SETS[set].charAt(number);
        String all = probes(set, numbers);
        if (is < TO_CAPITALS) {
            return is + all;
        }
        if (is <= TO_SIGNS) {
            return probes(is - TO_CAPITALS, numbers);
        }
        return (is == CAPITAL_ALONE ? "B" : "<") + all.substring(1);
    }

    /** "In text a codeword below 900 is two numbers; those with changes and one byte alone as above". */
    private static void everyNumberOfEachSet() {
        for (int set = 0; set < 4; set++) {
            Expect.equal("numbers of a set", SETS[set].length(), 30);
            for (int number = 0; number < 30; number++) {
                reads(dueOf(set, number, LEADS[set].length + 1), withProbes(LEADS[set], number));
            }
        }
    }

    /** "Behind one for one byte alone any number of that set is that byte, but one that is a change there is nothing". */
    private static void everyNumberBehindOneAlone() {
        int[][] alone = {{0, 29, 3}, {1, 27, 0}, {1, 29, 3}, {2, 29, 3}};
        for (int[] a : alone) {
            for (int number = 0; number < 30; number++) {
                char is = SETS[a[2]].charAt(number);
                String due = is < TO_CAPITALS ? "" + is : "";
                reads(due + probes(a[0], LEADS[a[0]].length), withProbes(LEADS[a[0]], a[1], number));
            }
        }
    }

    /** "One for a byte alone without a number behind it, at the end, before another way or 913, is nothing". */
    private static void oneAloneWithoutANumber() {
        int[] waiting = {29, 27 * 30 + 29, 27 * 30 + 27, 28 * 30 + 29};
        String[] before = {"A", "", "", ""};
        String[] behind913 = {"B", "b", "b", "1"};
        for (int i = 0; i < 4; i++) {
            int w = waiting[i];
            reads(before[i], w);
            reads(before[i], w, 900);
            reads(before[i], w, 900, 900, 900);
            reads(before[i] + "AB", w, 900, 1);
            reads(before[i] + "\u0001", w, 901, 1);
            reads(before[i] + "AB", w, 901, 900, 1);
            reads(before[i] + "\u0001", w, 924, 1);
            reads(before[i] + "5", w, 902, 15);
            reads(before[i] + "\u0001" + behind913[i].repeat(2), w, 913, 1, 31);
        }
        reads("A;A", 29, 0);
    }

    /** "Text begins with capitals" at first, behind 900 from each other way, and behind 900 from each set. */
    private static void textBeginsWithCapitals() {
        reads("BB", 31);
        for (int[] lead : new int[][] {{27, 1}, {28, 1}, {28, 25}}) {
            int codeword = 30 * lead[0] + lead[1];
            String set = lead[0] == 27 ? "bbb" : lead[1] == 25 ? "<<" : "111";
            reads(set + "BB", codeword, 31, 900, 31);
            reads(set + "BB", codeword, 31, 901, 900, 31);
            reads(set + "BB", codeword, 31, 924, 900, 31);
            reads(set + "BB", codeword, 31, 902, 900, 31);
        }
    }

    /** "The set is kept through 913". */
    private static void setIsKeptThroughByte() {
        reads("BB\u00c8BB", 31, 913, 200, 31);
        reads("bbb\u00c8bb", 27 * 30 + 1, 31, 913, 200, 31);
        reads("111\u00c811", 28 * 30 + 1, 31, 913, 200, 31);
        reads("<<\u00c8<<", 28 * 30 + 25, 31, 913, 200, 31);
        reads("<<\u00c8\u00c9<<", 28 * 30 + 25, 31, 913, 200, 913, 201, 31);
    }

    /** "A codeword below 900": 899 is two numbers, 900 is none. */
    private static void highestOfText() {
        reads("BB", 899, 31);
        reads("BB", 900, 31);
        reads("", 899);
        faultAt(1, 903, 31);
    }

    /** "The next one, 0 .. 255, is a byte"; "above 255" it is fault 5. */
    private static void byteBehind913() {
        reads("\0", 913, 0);
        reads("\u00ff", 913, 255);
        for (int above : new int[] {256, 257, 899, 900, 901, 902, 903, 913, 924, 928}) {
            faultAt(2, 913, above);
            faultAt(2, 913, above, 1);
            faultAt(3, 1, 913, above);
        }
    }

    /** "Or not there (then: at the number behind the last one)": whatever check stands there. */
    private static void notThere() {
        for (int before = 0; before < 60; before++) {
            faultAt(3, before, 913);
        }
        for (int size = 1; size <= 80; size++) {
            int[] codewords = new int[size];
            codewords[size - 1] = 913;
            faultAt(size + 1, codewords);
        }
        faultAt(2, 913, 900);
        faultAt(2, 913, 900, 900, 900);
        faultAt(4, 913, 5, 913);
    }

    private static String six(int last) {
        return "\0\0\0\0\0" + (char) last;
    }

    /** "Five codewords below 900 are six bytes, as long as behind them a sixth one below 900 is still there". */
    private static void runsOfBytesBy901() {
        String lone = "\0\0\0\0\0";
        reads("", run(901, 0, 0));
        reads("\0", run(901, 0, 1));
        reads("\0\0\0\0", run(901, 0, 4));
        reads(lone, run(901, 0, 5));
        reads(six(0) + "\0", run(901, 0, 6));
        reads(six(0) + lone.substring(1), run(901, 0, 9));
        reads(six(0) + lone, run(901, 0, 10));
        reads(six(0) + six(0) + "\0", run(901, 0, 11));
        for (int way : new int[] {900, 901, 902, 924}) {
            reads(lone, run(901, 0, 5, way));
            reads(six(0) + "\0", run(901, 0, 6, way));
        }
        reads(lone + six(3), run(901, 0, 5, 924, 0, 0, 0, 0, 3));
        reads(lone + "\u0003", run(901, 0, 5, 901, 3));
        reads(lone + "AA", run(901, 0, 5, 900, 0));
        reads(six(1) + "\u00ff", 901, 0, 0, 0, 0, 1, 255);
        faultAt(7, 901, 0, 0, 0, 0, 1, 256);
        faultAt(7, 901, 0, 0, 0, 0, 1, 899);
        faultAt(7, run(901, 0, 5, 903));
        faultAt(7, run(901, 0, 5, 913, 1));
    }

    /** "Or (924) as they come; those that are left are a byte each". */
    private static void runsOfBytesBy924() {
        reads("", run(924, 0, 0));
        reads("\0", run(924, 0, 1));
        reads("\0\0\0\0", run(924, 0, 4));
        reads(six(0), run(924, 0, 5));
        reads(six(0) + "\0", run(924, 0, 6));
        reads(six(0) + "\0\0\0\0", run(924, 0, 9));
        reads(six(0) + six(0), run(924, 0, 10));
        reads(six(0) + six(0) + "\0", run(924, 0, 11));
        for (int way : new int[] {900, 901, 902, 924}) {
            reads("\0\0\0\0", run(924, 0, 4, way));
            reads(six(0), run(924, 0, 5, way));
        }
        reads("\0\0\0\0" + "\u0001\u0002", run(924, 0, 4, 924, 1, 2));
        reads(six(0) + "\u0003\u0004\u0005\u0006\u0007", run(924, 0, 5, 901, 3, 4, 5, 6, 7));
    }

    /** "A codeword that must be a byte .. and is above 255". */
    private static void leftBytesUpTo255() {
        for (int way : new int[] {901, 924}) {
            for (int before = 0; before < 4; before++) {
                reads("\0".repeat(before) + "\u00ff", run(way, 0, before, 255));
                faultAt(2 + before, run(way, 0, before, 256));
                faultAt(2 + before, run(way, 0, before, 899));
            }
        }
        reads("\0\0\0\0\u00ff", run(901, 0, 4, 255));
        faultAt(6, run(901, 0, 4, 256));
        reads("\0\0\0\0\u0001\0", run(924, 0, 4, 256));
    }

    /** "The first of five that are more than six bytes". */
    private static void moreThanSixBytes() {
        String most = "\u00ff".repeat(6);
        reads(most, 924, 429, 11, 71, 222, 855);
        faultAt(2, 924, 429, 11, 71, 222, 856);
        faultAt(2, 924, 429, 11, 71, 223, 0);
        faultAt(2, 924, 430, 0, 0, 0, 0);
        faultAt(2, 924, 899, 899, 899, 899, 899);
        reads(most + "\0", 901, 429, 11, 71, 222, 855, 0);
        faultAt(2, 901, 429, 11, 71, 222, 856, 0);
        reads(six(1) + most, 924, 0, 0, 0, 0, 1, 429, 11, 71, 222, 855);
        faultAt(7, 924, 0, 0, 0, 0, 1, 429, 11, 71, 222, 856);
        faultAt(7, 901, 0, 0, 0, 0, 1, 429, 11, 71, 222, 856, 0);
        faultAt(2, 901, 429, 11, 71, 222, 855);
        faultAt(2, 924, 429, 11, 71, 222);
    }

    /** Zeros and 17 behind them, fifteen in all: the digit 7. */
    private static int[] fifteen(int... behind) {
        int[] all = run(902, 0, 14, 17);
        int[] longer = Arrays.copyOf(all, all.length + behind.length);
        System.arraycopy(behind, 0, longer, all.length, behind.length);
        return longer;
    }

    /** "Digits: by fifteens, and what is left". */
    private static void runsOfDigits() {
        reads("", 902);
        reads("7", run(902, 0, 13, 17));
        reads("7", fifteen());
        faultAt(2, run(902, 0, 15, 17));
        reads("78", fifteen(18));
        reads("78000", fifteen(18, 902, 1, 100));
        reads("77", fifteen(0, 0, 0, 0, 0, 0, 0, 0, 0, 0, 0, 0, 0, 0, 17));
        reads("778", fifteen(0, 0, 0, 0, 0, 0, 0, 0, 0, 0, 0, 0, 0, 0, 17, 18));
        reads("7AA", fifteen(900, 0));
        reads("7\0", fifteen(901, 0));
        reads("78", 902, 17, 902, 18);
        String digits = "12345678901234567890123456789012345678901234";
        reads(digits, Tools.codewordsOf(Tools.withTape(digits)));
        reads("0".repeat(44), Tools.codewordsOf(Tools.withTape("0".repeat(44))));
        reads("9".repeat(44) + "9", Tools.codewordsOf(Tools.withTape("9".repeat(45))));
    }

    /** "The first of fifteen (or those that are left) whose number does not begin with 1". */
    private static void beginsWithOne() {
        reads("", 902, 1);
        faultAt(2, 902, 0);
        faultAt(2, 902, 2);
        for (int first = 0; first < 900; first++) {
            String number = "" + first;
            if (number.charAt(0) == '1') {
                reads(number.substring(1), 902, first);
            } else {
                faultAt(2, 902, first);
            }
        }
        reads("799", 902, 1, 899);
        faultAt(2, 902, 2, 200);
        reads("999", 902, 2, 199);
        faultAt(2, 902, 0, 0, 0);
        faultAt(2, run(902, 0, 15));
        faultAt(2, run(902, 899, 15));
        reads("7", fifteen());
        faultAt(17, fifteen(0));
        faultAt(17, fifteen(20));
        faultAt(17, fifteen(0, 0, 0, 0, 0, 0, 0, 0, 0, 0, 0, 0, 0, 0, 2, 18));
        faultAt(4, 902, 17, 902, 2);
        faultAt(2, 902, 2, 903);
        faultAt(3, 902, 1, 903);
    }

    /** "Another one from 903 on (but 913 in text)", in each way. */
    private static void codewordsFrom903() {
        for (int codeword = 903; codeword <= 928; codeword++) {
            if (codeword == 924) {
                continue;
            }
            if (codeword != 913) {
                faultAt(1, codeword, 1);
                faultAt(2, 31, codeword, 1);
                faultAt(2, 900, codeword);
            }
            faultAt(2, 901, codeword, 1);
            faultAt(3, 901, 1, codeword);
            faultAt(2, 924, codeword, 1);
            faultAt(7, run(924, 0, 5, codeword));
            faultAt(2, 902, codeword, 1);
            faultAt(3, 902, 1, codeword);
        }
        reads("BB", 924, 900, 31);
        reads("BB\u0001", 31, 913, 1);
        reads("\u0001BB", 901, 900, 913, 1, 31);
    }

    /** "900, 901, 924, 902 change the way", from each to each. */
    private static void changesOfWay() {
        int[] ways = {900, 901, 924, 902};
        String[] due = {"AS", "\u0012", "\u0012", "8"};
        for (int from = 0; from < 4; from++) {
            for (int to = 0; to < 4; to++) {
                reads(due[from] + due[to], ways[from], 18, ways[to], 18);
                reads(due[to], ways[from], ways[to], 18);
            }
            reads("AS" + due[from], 18, ways[from], 18);
            reads("", ways[from]);
        }
    }

    /** "900 is also what FILLS: any of them at the end are nothing", behind each way. */
    private static void filling() {
        for (int fills = 0; fills <= 4; fills++) {
            reads("BB", run(31, 900, fills));
            reads("", run(900, 900, fills));
            reads("", run(901, 900, fills));
            reads("", run(924, 900, fills));
            reads("", run(902, 900, fills));
            int[] five = run(902, 900, fills + 1);
            five[1] = 15;
            reads("5", five);
            int[] one = run(913, 900, fills + 1);
            one[1] = 5;
            reads("\u0005", one);
        }
        reads("BB", 900, 31, 900);
        reads("BBBB", 31, 900, 900, 31);
    }

    /** "Read .. to its first fault": the one behind it does not count, nor what would have come before it in another order. */
    private static void firstFaultCounts() {
        faultAt(1, 903, 904);
        faultAt(2, 31, 904, 903);
        faultAt(2, 901, 256, 903);
        faultAt(2, 902, 2, 902, 2);
        faultAt(2, 913, 256, 913);
        faultAt(3, 901, 0, 256, 256);
        faultAt(2, 924, 899, 899, 899, 899, 899, 256);
    }

    /** The number of a codeword goes on through all rows and columns: 0 is the length. */
    private static void numbersOfFaultsInRows() {
        for (int columns = 1; columns <= 8; columns++) {
            for (int at = 1; at <= 20; at++) {
                int n = (24 + columns - 1) / columns * columns;
                int[] data = new int[n - 2];
                data[0] = n - 2;
                data[at] = 903;
                Rows x = new Rows();
                Tools.handRow(x, 0, columns, data);
                Expect.equal("solve", x.solve(), -1);
                Expect.equal("fault in " + columns + " columns", Tools.solvedOf(x), 5, at, 0, 0);
            }
        }
    }
}
