import java.util.ArrayList;
import java.util.List;

/** What an object answers depends on its tape and its symbol alone: one that was used before, beside a new one. */
public final class AgainTest {
    private static final String[] TEXTS = {"", "A", "abcde", "11111;;;;", "1;;", "\u0080", "\u0080\u0081", "1234567890123",
        "0".repeat(44), "123456789012", "\u0080".repeat(12), "abcde\u0080", "A;", "aB1;\u0080\u0081", "12345678901234567890ABC"};
    private static final int[][] READS = {{}, {31}, {27 * 30}, {27 * 30 + 27}, {28 * 30 + 25}, {29}, {913, 5}, {913}, {901, 5},
        {901, 300}, {924, 0, 0, 0, 0, 1}, {924, 899, 899, 899, 899, 899}, {902, 15}, {902, 25}, {903}, {902}, {901}, {31, 900, 900}};

    public static void main(String[] args) {
        writtenAgain();
        madeAgain();
        readAgain();
        solvedAgain();
        cutAndFedAgain();
        Expect.finish("AgainTest");
    }

    /** All that a step answers, in the order of its calls. */
    private static int[] writing(Rows x, String text) {
        Tools.tape(x, Tools.bytesOf(text));
        return Tools.codewordsOf(x);
    }

    private static int[] making(Rows x, String text, int level, int columns) {
        Tools.tape(x, Tools.bytesOf(text));
        x.make(level, columns);
        return Tools.placesOf(() -> x);
    }

    private static int[] reading(Rows x, int level, int... codewords) {
        Tools.hand(x, level, codewords);
        return solving(x);
    }

    private static int[] solving(Rows x) {
        List<Integer> answers = new ArrayList<>();
        answers.add(x.solve());
        for (int solved : Tools.solvedOf(x)) {
            answers.add(solved);
        }
        if (answers.get(0) != StackedRows.NONE) {
            for (int b : Tools.tapeOf(x)) {
                answers.add(b);
            }
        }
        return answers.stream().mapToInt(Integer::intValue).toArray();
    }

    private static void writtenAgain() {
        for (String before : TEXTS) {
            for (String text : TEXTS) {
                Rows x = new Rows();
                writing(x, before);
                Expect.equal(text + " behind " + before, writing(x, text), writing(new Rows(), text));
            }
        }
    }

    private static void madeAgain() {
        int[][] shapes = {{0, 1}, {0, 9}, {1, 2}, {2, 3}, {3, 4}, {0, 3}, {1, 30}};
        for (int[] before : shapes) {
            for (int[] shape : shapes) {
                Rows x = new Rows();
                making(x, "What was spoilt", before[0], before[1]);
                Expect.equal("made again", making(x, "or lost", shape[0], shape[1]),
                        making(new Rows(), "or lost", shape[0], shape[1]));
                Expect.equal("solved behind it", solving(x)[0], 7);
            }
        }
        Rows x = Tools.made("A", 8, 29);
        x.make(8, 28);
        x.make(8, 20);
        Expect.equal("the highest level again", x.solve(), 1);
        Expect.equal("none wrong", Tools.solvedOf(x), 0, 0, 0, 8);
    }

    private static void readAgain() {
        for (int[] before : READS) {
            for (int[] codewords : READS) {
                Rows x = new Rows();
                reading(x, 0, before);
                Expect.equal("read again", reading(x, 0, codewords), reading(new Rows(), 0, codewords));
                x = new Rows();
                reading(x, 1, before);
                Expect.equal("read again", reading(x, 0, codewords), reading(new Rows(), 0, codewords));
            }
        }
    }

    /** Levels, lost ones and wrong ones one behind another: what was found before is no help and no harm. */
    private static void solvedAgain() {
        Tools.Dice dice = new Tools.Dice(17);
        for (int round = 0; round < 300; round++) {
            Rows x = new Rows();
            for (int step = 0; step < 4; step++) {
                int level = dice.below(4);
                int columns = 1 + dice.below(9);
                Rows fresh = new Rows();
                for (Rows y : new Rows[] {x, fresh}) {
                    y.end(0);
                    y.feed(0x48656c6c, 0x6f2c2057, 0x6f726c64, step, round);
                    y.make(level, columns);
                }
                spoil(x, fresh, dice, dice.below(2 << level));
                Expect.equal("round " + round + ", step " + step, solving(x), solving(fresh));
            }
        }
    }

    private static void spoil(Rows x, Rows fresh, Tools.Dice dice, int times) {
        for (int i = 0; i < times; i++) {
            int at = dice.below(x.rows() * x.columns());
            int codeword = dice.below(3) == 0 ? dice.below(929) : StackedRows.LOST;
            Tools.putCodeword(x, at, codeword);
            Tools.putCodeword(fresh, at, codeword);
        }
    }

    /** A tape that was written is cut within its digits or its text, and goes on with others. */
    private static void cutAndFedAgain() {
        for (String text : TEXTS) {
            for (int n = 0; n <= text.length(); n++) {
                Rows x = Tools.withTape(text);
                x.codewords();
                x.end(n);
                Expect.equal("cut", Tools.codewordsOf(x), writing(new Rows(), text.substring(0, n)));
                x.feed(0x39414141, 0x41414141, 0x41414141, 0x41414141, 0x41414141);
                String all = text.substring(0, n) + "9" + "A".repeat(19);
                Expect.equal("and fed", Tools.codewordsOf(x), writing(new Rows(), all));
            }
        }
    }
}
