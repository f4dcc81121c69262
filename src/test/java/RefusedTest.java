import java.util.function.Supplier;

/** "A call that throws changes nothing": every call that is refused, in each state, beside an object that did not make it. */
public final class RefusedTest {
    private static final int LEAST = Integer.MIN_VALUE;
    private static final int MOST = Integer.MAX_VALUE;
    private static final int LOOKS_AT_ONCE = 150;

    private interface Call {
        void on(Rows x);
    }

    /** A way to come to a state, and what is there to be seen in it. */
    private static final class State {
        private final String name;
        private final Supplier<Rows> build;
        private final int bytes;
        private final int codewords;
        private final int rows;
        private final int columns;
        private final int[] answers;

        State(String name, Supplier<Rows> build) {
            this.name = name;
            this.build = build;
            Rows x = build.get();
            bytes = x.count(0);
            codewords = x.codewords();
            rows = x.count(1);
            columns = x.count(2);
            answers = Tools.looks(build, looks(), this::look);
        }

        private int looks() {
            return 8 + bytes + codewords + rows * (columns + 2);
        }

        /** One of all the answers that tell the state. */
        private int look(Rows x, int i) {
            if (i < 3) {
                return x.count(i);
            }
            if (i < 7) {
                return x.solved(i - 3);
            }
            if (i == 7) {
                return x.codewords();
            }
            int left = i - 8;
            if (left < bytes) {
                return x.byteAt(left);
            }
            left -= bytes;
            if (left < codewords) {
                return x.codeword(left);
            }
            left -= codewords;
            return x.place(left / (columns + 2), left % (columns + 2));
        }

        void refuses(String what, Class<? extends RuntimeException> due, Call call) {
            String where = name + ": " + what;
            Rows x = build.get();
            for (int i = 0; i < answers.length; i++) {
                if (i % LOOKS_AT_ONCE == 0) {
                    Rows y = build.get();
                    Expect.thrown(where, due, () -> call.on(y));
                    x = y;
                }
                Expect.equal(where + ", look " + i, look(x, i), answers[i]);
            }
            Rows twice = build.get();
            Expect.thrown(where, due, () -> call.on(twice));
            Expect.thrown(where + " again", due, () -> call.on(twice));
            goesOn(where, twice);
        }

        /** What comes behind is the same, too. */
        private void goesOn(String where, Rows x) {
            Rows plain = build.get();
            Expect.equal(where + ", then solve", solve(x), solve(plain));
            Expect.equal(where + ", then solved", Tools.solvedOf(x), Tools.solvedOf(plain));
            Expect.equal(where + ", then feed", feed(x), feed(plain));
            Expect.equal(where + ", then codewords", x.codewords(), plain.codewords());
            Expect.equal(where + ", then count(0)", x.count(0), plain.count(0));
        }

        private static int solve(Rows x) {
            try {
                return x.solve();
            } catch (IllegalStateException e) {
                return -2;
            } catch (UnsupportedOperationException e) {
                return -3;
            }
        }

        private static int feed(Rows x) {
            try {
                return x.feed(0x31323334, 0x35363738, 0x39414243, 0x44454647, 0x80818283);
            } catch (UnsupportedOperationException e) {
                return -3;
            }
        }
    }

    public static void main(String[] args) {
        State[] states = {
            new State("new", Rows::new),
            new State("short tape", () -> Tools.withTape("ABC")),
            new State("1180 bytes", () -> Tools.withTape("AbC1;".repeat(236))),
            new State("1181 bytes", () -> Tools.withTape("A".repeat(1181))),
            new State("full tape", () -> Tools.withTape("0".repeat(1200))),
            new State("emptied tape", RefusedTest::emptied),
            new State("made", () -> Tools.made("Hello, World", 2, 4)),
            new State("made of a full tape", () -> Tools.made("A".repeat(1200), 7, 28)),
            new State("blank", RefusedTest::blank),
            new State("solved with two wrong", RefusedTest::mended),
            new State("fault 2", RefusedTest::fault2),
            new State("fault 3", RefusedTest::fault3),
            new State("fault 5", RefusedTest::fault5),
            new State("too many bytes", RefusedTest::tooMany),
        };
        for (State state : states) {
            ofTheTape(state);
            ofTheSymbol(state);
            ofPlaces(state);
            ofWhat(state);
        }
        bothSidesOfFull();
        Expect.finish("RefusedTest");
    }

    private static Rows emptied() {
        Rows x = Tools.made("Hello, World", 0, 3);
        x.end(0);
        return x;
    }

    private static Rows blank() {
        Rows x = Tools.withTape("12345");
        x.blank(32, 29);
        x.put(31, 30, 5);
        return x;
    }

    private static Rows mended() {
        Rows x = Tools.made("Hello, World", 2, 4);
        x.put(1, 1, 5);
        x.put(2, 2, 5);
        x.put(2, 3, StackedRows.LOST);
        x.solve();
        x.end(4);
        return x;
    }

    private static Rows fault2() {
        Rows x = new Rows();
        x.blank(90, 10);
        Tools.putIndicators(x, 9);
        x.solve();
        x.feed(1, 2, 3, 4, 5);
        return x;
    }

    private static Rows fault3() {
        Rows x = Tools.made("Hello, World", 0, 4);
        x.put(1, 1, 5);
        x.solve();
        return x;
    }

    private static Rows fault5() {
        Rows x = Tools.withTape("ABC");
        Tools.hand(x, 1, 31, 903, 900);
        Tools.putCodeword(x, 1, 77);
        x.solve();
        return x;
    }

    /** 600 codewords of text, and one more where filling was; an earlier solve() is told by solved(). */
    private static Rows tooMany() {
        Rows x = Tools.made("Hello, World", 2, 4);
        x.put(1, 1, 5);
        x.solve();
        Tools.tape(x, Tools.bytesOf("A".repeat(1200)));
        x.make(0, 28);
        int[] data = new int[614];
        java.util.Arrays.fill(data, 602, 614, 900);
        data[0] = 614;
        data[601] = 29;
        int[] row = Tools.withChecks(data, 2);
        for (int i : new int[] {601, 614, 615}) {
            Tools.putCodeword(x, i, row[i]);
        }
        x.end(2);
        return x;
    }

    private static void ofTheTape(State s) {
        if (s.bytes > 1180) {
            s.refuses("feed", UnsupportedOperationException.class, x -> x.feed(-1, 2, 3, 4, 5));
        }
        for (int n : new int[] {-1, s.bytes + 1, 1201, LEAST, MOST}) {
            s.refuses("end(" + n + ")", IllegalArgumentException.class, x -> x.end(n));
        }
        for (int k : new int[] {-1, s.bytes, 1200, LEAST, MOST}) {
            s.refuses("byteAt(" + k + ")", IndexOutOfBoundsException.class, x -> x.byteAt(k));
        }
        for (int k : new int[] {-1, s.codewords, LEAST, MOST}) {
            s.refuses("codeword(" + k + ")", IndexOutOfBoundsException.class, x -> x.codeword(k));
        }
    }

    private static void ofTheSymbol(State s) {
        for (int[] w : new int[][] {{-1, 5}, {9, 5}, {0, 0}, {0, 31}, {9, 31}, {LEAST, 5}, {5, MOST}}) {
            s.refuses("make(" + w[0] + ", " + w[1] + ")", IllegalArgumentException.class, x -> x.make(w[0], w[1]));
        }
        s.refuses("make(8, 1): too many rows", UnsupportedOperationException.class, x -> x.make(8, 1));
        if (s.codewords > 416) {
            s.refuses("make(8, 29): N above 928", UnsupportedOperationException.class, x -> x.make(8, 29));
        }
        for (int[] w : new int[][] {{2, 5}, {91, 5}, {5, 0}, {5, 31}, {31, 30}, {85, 11}, {-3, -3}, {65536, 65536}}) {
            s.refuses("blank(" + w[0] + ", " + w[1] + ")", IllegalArgumentException.class, x -> x.blank(w[0], w[1]));
        }
        if (s.rows == 0) {
            s.refuses("solve()", IllegalStateException.class, Rows::solve);
        }
        if (s.name.equals("too many bytes")) {
            s.refuses("solve()", UnsupportedOperationException.class, Rows::solve);
        }
    }

    /** Without a symbol that is what is told, whatever else is wrong; without such a place, whatever the codeword. */
    private static void ofPlaces(State s) {
        Class<? extends RuntimeException> due =
                s.rows == 0 ? IllegalStateException.class : IndexOutOfBoundsException.class;
        int[][] none = {{-1, 0}, {s.rows, 0}, {0, -1}, {0, s.columns + 2}, {-1, -1}, {MOST, LEAST}};
        for (int[] p : none) {
            String where = "(" + p[0] + ", " + p[1];
            s.refuses("place" + where + ")", due, x -> x.place(p[0], p[1]));
            for (int codeword : new int[] {0, StackedRows.LOST, 929, -2}) {
                s.refuses("put" + where + ", " + codeword + ")", due, x -> x.put(p[0], p[1], codeword));
            }
        }
        if (s.rows == 0) {
            s.refuses("place(0, 0)", due, x -> x.place(0, 0));
            s.refuses("put(0, 0, 0)", due, x -> x.put(0, 0, 0));
            return;
        }
        for (int codeword : new int[] {-2, 929, LEAST, MOST}) {
            s.refuses("put(0, 0, " + codeword + ")", IllegalArgumentException.class, x -> x.put(0, 0, codeword));
            s.refuses("put at the end, " + codeword, IllegalArgumentException.class,
                    x -> x.put(s.rows - 1, s.columns + 1, codeword));
        }
    }

    private static void ofWhat(State s) {
        for (int what : new int[] {-1, 4, LEAST, MOST}) {
            s.refuses("solved(" + what + ")", IndexOutOfBoundsException.class, x -> x.solved(what));
        }
        for (int what : new int[] {-1, 3, LEAST, MOST}) {
            s.refuses("count(" + what + ")", IllegalArgumentException.class, x -> x.count(what));
        }
    }

    /** "They would be more than 1200": from 1180 on they are just 1200. */
    private static void bothSidesOfFull() {
        for (int size = 1160; size <= 1200; size++) {
            Rows x = Tools.withTape("A".repeat(size));
            if (size <= 1180) {
                Expect.equal("feed behind " + size, x.feed(0x42434445, 0, 0, 0, 0x46), size + 20);
                Expect.equal("its first byte", x.byteAt(size), 0x42);
                Expect.equal("its last byte", x.byteAt(size + 19), 0x46);
            } else {
                Expect.thrown("feed behind " + size, UnsupportedOperationException.class, () -> x.feed(1, 2, 3, 4, 5));
                Expect.equal("none more", x.count(0), size);
            }
        }
    }
}
