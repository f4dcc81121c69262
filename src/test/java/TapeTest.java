/** Promises 1 to 4, and 13 for the tape. */
public final class TapeTest {
    public static void main(String[] args) {
        newObject();
        feeding();
        ending();
        endOfFull();
        bytes();
        behindSolve();
        Expect.finish("TapeTest");
    }

    private static void newObject() {
        Rows x = new Rows();
        Expect.equal("NONE", StackedRows.NONE, -1);
        Expect.equal("LOST", StackedRows.LOST, -1);
        Expect.equal("new count(0)", x.count(0), 0);
        Expect.equal("new count(1)", x.count(1), 0);
        Expect.equal("new count(2)", x.count(2), 0);
        Expect.equal("new codewords", x.codewords(), 0);
        Expect.equal("new solved", Tools.solvedOf(x), 0, 0, 0, 0);
        Expect.thrown("new place", IllegalStateException.class, () -> x.place(0, 0));
        Expect.thrown("new place, no such place", IllegalStateException.class, () -> x.place(-1, 99));
        Expect.thrown("new put", IllegalStateException.class, () -> x.put(0, 0, 0));
        Expect.thrown("new put, all wrong", IllegalStateException.class, () -> x.put(-1, -1, 4000));
        Expect.thrown("new solve", IllegalStateException.class, x::solve);
        Expect.thrown("new byteAt", IndexOutOfBoundsException.class, () -> x.byteAt(0));
        Expect.thrown("new codeword", IndexOutOfBoundsException.class, () -> x.codeword(0));
    }

    private static void feeding() {
        Rows x = new Rows();
        Expect.equal("feed", x.feed(0x01020304, 0x05060708, 0x090a0b0c, 0x0d0e0f10, 0x11121314), 20);
        for (int i = 0; i < 20; i++) {
            Expect.equal("byte " + i, x.byteAt(i), i + 1);
        }
        Expect.equal("feed high", x.feed(-1, 0x80000000, 0x00ff00ff, Integer.MAX_VALUE, 0), 40);
        int[] high = {255, 255, 255, 255, 128, 0, 0, 0, 0, 255, 0, 255, 127, 255, 255, 255, 0, 0, 0, 0};
        for (int i = 0; i < 20; i++) {
            Expect.equal("high byte " + i, x.byteAt(20 + i), high[i]);
        }
        for (int n = 60; n <= 1200; n += 20) {
            Expect.equal("feed to " + n, x.feed(n, n, n, n, n), n);
        }
        Expect.thrown("feed past 1200", UnsupportedOperationException.class, () -> x.feed(1, 1, 1, 1, 1));
        Expect.equal("count behind", x.count(0), 1200);
        Expect.equal("last byte", x.byteAt(1199), 1200 & 255);
        x.end(1181);
        Expect.thrown("feed past 1200 from 1181", UnsupportedOperationException.class, () -> x.feed(1, 1, 1, 1, 1));
        Expect.equal("count of 1181", x.count(0), 1181);
        x.end(1180);
        Expect.equal("feed to 1200 again", x.feed(9, 9, 9, 9, 9), 1200);
    }

    /** "The tape keeps its first n bytes"; "n is below 0, or it has not so many". */
    private static void ending() {
        Rows x = new Rows();
        Expect.thrown("end(1) of none", IllegalArgumentException.class, () -> x.end(1));
        x.end(0);
        x.feed(0x41424344, 0, 0, 0, 0);
        Expect.thrown("end(21)", IllegalArgumentException.class, () -> x.end(21));
        Expect.thrown("end(-1)", IllegalArgumentException.class, () -> x.end(-1));
        Expect.thrown("end(least)", IllegalArgumentException.class, () -> x.end(Integer.MIN_VALUE));
        Expect.thrown("end(most)", IllegalArgumentException.class, () -> x.end(Integer.MAX_VALUE));
        Expect.equal("a throw changes nothing", x.count(0), 20);
        x.end(20);
        Expect.equal("end(20)", x.count(0), 20);
        x.end(3);
        Expect.equal("end(3)", Tools.tapeOf(x), 0x41, 0x42, 0x43);
        Expect.thrown("end(4) of 3", IllegalArgumentException.class, () -> x.end(4));
        x.feed(0x61616161, 0, 0, 0, 0);
        Expect.equal("feed goes on there", x.byteAt(3), 0x61);
        Expect.equal("count behind", x.count(0), 23);
        x.end(0);
        Expect.equal("end(0)", x.count(0), 0);
        Expect.thrown("byteAt(0) behind end(0)", IndexOutOfBoundsException.class, () -> x.byteAt(0));
        x.end(0);
        Expect.thrown("end(1) behind end(0)", IllegalArgumentException.class, () -> x.end(1));
    }

    private static void endOfFull() {
        Rows x = Tools.withTape("A".repeat(1200));
        Expect.thrown("end(1201)", IllegalArgumentException.class, () -> x.end(1201));
        x.end(1200);
        Expect.equal("end(1200)", x.count(0), 1200);
        x.end(1199);
        Expect.equal("end(1199)", x.count(0), 1199);
        Expect.thrown("end(1200) of 1199", IllegalArgumentException.class, () -> x.end(1200));
    }

    /** "Byte k of the tape, 0 .. 255", the first and the last; none before and behind these. */
    private static void bytes() {
        for (int b = 0; b < 256; b++) {
            Rows x = Tools.withTape(b, 255 - b);
            Expect.equal("the first", x.byteAt(0), b);
            Expect.equal("the last", x.byteAt(1), 255 - b);
            Expect.thrown("byteAt(2)", IndexOutOfBoundsException.class, () -> x.byteAt(2));
        }
        for (int size : new int[] {0, 1, 19, 20, 21, 1199, 1200}) {
            Rows x = Tools.withTape("A".repeat(size));
            for (int k : new int[] {-1, size, 1200, Integer.MIN_VALUE, Integer.MAX_VALUE}) {
                Expect.thrown("byteAt(" + k + ") of " + size, IndexOutOfBoundsException.class, () -> x.byteAt(k));
            }
            if (size > 0) {
                Expect.equal("the first of " + size, x.byteAt(0), 65);
                Expect.equal("the last of " + size, x.byteAt(size - 1), 65);
            }
        }
    }

    /** "The tape has its bytes then", and none of those that it had before, be they more or fewer. */
    private static void behindSolve() {
        Rows x = Tools.made("ABCDE", 0, 3);
        Tools.tape(x, Tools.bytesOf("longer than those of the symbol"));
        Expect.equal("solve", x.solve(), 5);
        Expect.equal("fewer", Tools.tapeOf(x), Tools.bytesOf("ABCDE"));
        Expect.thrown("byteAt(5)", IndexOutOfBoundsException.class, () -> x.byteAt(5));
        Expect.thrown("end(6)", IllegalArgumentException.class, () -> x.end(6));
        x.end(1);
        Expect.equal("solve", x.solve(), 5);
        Expect.equal("more", Tools.tapeOf(x), Tools.bytesOf("ABCDE"));
        Expect.equal("feed goes on there", x.feed(0x46000000, 0, 0, 0, 0), 25);
        Expect.equal("its first byte", x.byteAt(5), 0x46);
    }
}
