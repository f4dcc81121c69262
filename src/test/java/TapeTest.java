/** Promises 1 to 4, and 13 for the tape. */
public final class TapeTest {
    public static void main(String[] args) {
        newObject();
        feeding();
        ending();
        bytes();
        Expect.finish("TapeTest");
    }

    private static void newObject() {
        StackedRows x = new StackedRows();
        Expect.equal("NONE", StackedRows.NONE, -1);
        Expect.equal("LOST", StackedRows.LOST, -1);
        Expect.equal("new count(0)", x.count(0), 0);
        Expect.equal("new count(1)", x.count(1), 0);
        Expect.equal("new count(2)", x.count(2), 0);
        Expect.equal("new codewords", x.codewords(), 0);
        Expect.equal("new solved", Tools.solvedOf(x), 0, 0, 0, 0);
        Expect.thrown("new place", IllegalStateException.class, () -> x.place(0, 0));
        Expect.thrown("new place, no such place", IllegalStateException.class, () -> x.place(-1, 99));
        Expect.thrown("new put", IllegalStateException.class, () -> x.put(0, 0, 0));
        Expect.thrown("new put, all wrong", IllegalStateException.class, () -> x.put(-1, -1, 4000));
        Expect.thrown("new solve", IllegalStateException.class, x::solve);
        Expect.thrown("new byteAt", IndexOutOfBoundsException.class, () -> x.byteAt(0));
        Expect.thrown("new codeword", IndexOutOfBoundsException.class, () -> x.codeword(0));
    }

    private static void feeding() {
        StackedRows x = new StackedRows();
        Expect.equal("feed", x.feed(0x01020304, 0x05060708, 0x090a0b0c, 0x0d0e0f10, 0x11121314), 20);
        for (int i = 0; i < 20; i++) {
            Expect.equal("byte " + i, x.byteAt(i), i + 1);
        }
        Expect.equal("feed high", x.feed(-1, 0x80000000, 0x00ff00ff, Integer.MAX_VALUE, 0), 40);
        int[] high = {255, 255, 255, 255, 128, 0, 0, 0, 0, 255, 0, 255, 127, 255, 255, 255, 0, 0, 0, 0};
        for (int i = 0; i < 20; i++) {
            Expect.equal("high byte " + i, x.byteAt(20 + i), high[i]);
        }
        for (int n = 60; n <= 1200; n += 20) {
            Expect.equal("feed to " + n, x.feed(n, n, n, n, n), n);
        }
        Expect.thrown("feed past 1200", UnsupportedOperationException.class, () -> x.feed(1, 1, 1, 1, 1));
        Expect.equal("count behind", x.count(0), 1200);
        Expect.equal("last byte", x.byteAt(1199), 1200 & 255);
        x.end(1181);
        Expect.thrown("feed past 1200 from 1181", UnsupportedOperationException.class, () -> x.feed(1, 1, 1, 1, 1));
        Expect.equal("count of 1181", x.count(0), 1181);
        x.end(1180);
        Expect.equal("feed to 1200 again", x.feed(9, 9, 9, 9, 9), 1200);
    }

    private static void ending() {
        StackedRows x = new StackedRows();
        Expect.thrown("end(1) of none", IllegalArgumentException.class, () -> x.end(1));
        x.end(0);
        x.feed(0x41424344, 0, 0, 0, 0);
        Expect.thrown("end(21)", IllegalArgumentException.class, () -> x.end(21));
        Expect.thrown("end(-1)", IllegalArgumentException.class, () -> x.end(-1));
        Expect.thrown("end(least)", IllegalArgumentException.class, () -> x.end(Integer.MIN_VALUE));
        Expect.equal("a throw changes nothing", x.count(0), 20);
        x.end(20);
        Expect.equal("end(20)", x.count(0), 20);
        x.end(3);
        Expect.equal("end(3)", Tools.tapeOf(x), 0x41, 0x42, 0x43);
        Expect.thrown("end(4) of 3", IllegalArgumentException.class, () -> x.end(4));
        x.feed(0x61616161, 0, 0, 0, 0);
        Expect.equal("feed goes on there", x.byteAt(3), 0x61);
        Expect.equal("count behind", x.count(0), 23);
    }

    private static void bytes() {
        StackedRows x = new StackedRows();
        x.feed(0, 0, 0, 0, 255);
        x.end(20);
        Expect.equal("byteAt(19)", x.byteAt(19), 255);
        Expect.thrown("byteAt(20)", IndexOutOfBoundsException.class, () -> x.byteAt(20));
        Expect.thrown("byteAt(-1)", IndexOutOfBoundsException.class, () -> x.byteAt(-1));
        x.end(19);
        Expect.thrown("byteAt(19) of 19", IndexOutOfBoundsException.class, () -> x.byteAt(19));
        Expect.thrown("byteAt(most)", IndexOutOfBoundsException.class, () -> x.byteAt(Integer.MAX_VALUE));
    }
}
