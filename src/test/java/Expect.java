/** Counts and prints what is not as it should be. */
final class Expect {
    private static int wrong = 0;
    private static int seen = 0;

    private Expect() {
    }

    interface Call {
        void run();
    }

    static void equal(String what, long got, long want) {
        seen++;
        if (got != want) {
            tell(what + " answered " + got + ", due is " + want);
        }
    }

    static void isTrue(String what, boolean holds) {
        equal(what, holds ? 1 : 0, 1);
    }

    static void equal(String what, int[] got, int... want) {
        seen++;
        if (!java.util.Arrays.equals(got, want)) {
            tell(what + " answered " + java.util.Arrays.toString(got) + ", due is " + java.util.Arrays.toString(want));
        }
    }

    /** Exactly that class, none below it. */
    static void thrown(String what, Class<? extends RuntimeException> due, Call call) {
        seen++;
        try {
            call.run();
        } catch (RuntimeException e) {
            if (e.getClass() != due) {
                tell(what + " throws " + e.getClass().getSimpleName() + ", due is " + due.getSimpleName());
            }
            return;
        }
        tell(what + " throws nothing, due is " + due.getSimpleName());
    }

    private static void tell(String line) {
        wrong++;
        if (wrong <= 50) {
            System.out.println(line);
        }
    }

    static void finish(String test) {
        System.out.println(test + ": " + seen + " looked at, " + wrong + " wrong");
        if (wrong != 0) {
            System.exit(1);
        }
    }
}
