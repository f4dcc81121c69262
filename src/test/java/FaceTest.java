import java.lang.management.ManagementFactory;
import java.lang.reflect.Constructor;
import java.lang.reflect.Field;
import java.lang.reflect.Method;
import java.lang.reflect.Modifier;
import java.util.Arrays;
import java.util.List;
import java.util.Map;
import java.util.Set;
import java.util.TreeMap;
import java.util.TreeSet;

/** The public face, and the room that a run of calls takes. */
public final class FaceTest {
    public static void main(String[] args) {
        constants();
        members();
        methods();
        declaredThrows();
        room();
        lastCalls();
        Expect.finish("FaceTest");
    }

    private static void constants() {
        for (String name : new String[] {"NONE", "LOST"}) {
            try {
                Field f = StackedRows.class.getDeclaredField(name);
                int due = Modifier.PUBLIC | Modifier.STATIC | Modifier.FINAL;
                Expect.isTrue(name + " is a public constant", f.getModifiers() == due && f.getType() == int.class);
                Expect.equal(name, f.getInt(null), -1);
            } catch (ReflectiveOperationException e) {
                Expect.isTrue(name + " is there", false);
            }
        }
    }

    private static void members() {
        Class<?> c = StackedRows.class;
        Expect.isTrue("public and final", Modifier.isPublic(c.getModifiers()) && Modifier.isFinal(c.getModifiers()));
        for (Field f : c.getDeclaredFields()) {
            boolean known = f.getName().equals("NONE") || f.getName().equals("LOST");
            Expect.isTrue("field " + f.getName(), known || Modifier.isPrivate(f.getModifiers()));
            Expect.isTrue("static is final", !Modifier.isStatic(f.getModifiers()) || Modifier.isFinal(f.getModifiers()));
        }
        Constructor<?>[] made = c.getDeclaredConstructors();
        Expect.isTrue("one constructor", made.length == 1 && made[0].getParameterCount() == 0
                && Modifier.isPublic(made[0].getModifiers()));
        for (Class<?> inside : c.getDeclaredClasses()) {
            Expect.isTrue("static " + inside, Modifier.isStatic(inside.getModifiers()));
            Expect.isTrue("not public " + inside, !Modifier.isPublic(inside.getModifiers()));
        }
        Expect.isTrue("not too many classes", c.getDeclaredClasses().length < 12);
    }

    private static void methods() {
        Set<String> due = new TreeSet<>(Set.of("feed/5:int", "end/1:void", "byteAt/1:int", "codewords/0:int", "codeword/1:int",
                "make/2:int", "blank/2:void", "place/2:int", "put/3:void", "solve/0:int"));
        due.add("solved/1:int");
        due.add("count/1:int");
        Set<String> got = new TreeSet<>();
        Set<String> names = new TreeSet<>();
        for (Method m : StackedRows.class.getDeclaredMethods()) {
            if (Modifier.isPublic(m.getModifiers())) {
                got.add(m.getName() + "/" + m.getParameterCount() + ":" + m.getReturnType());
                names.add(m.getName());
                Expect.isTrue("numbers alone", Arrays.stream(m.getParameterTypes()).allMatch(t -> t == int.class));
            }
        }
        Expect.isTrue("methods are " + got, got.equals(due));
        for (Method m : StackedRows.class.getDeclaredMethods()) {
            Expect.isTrue("private " + m, Modifier.isPublic(m.getModifiers()) || Modifier.isPrivate(m.getModifiers())
                    && !names.contains(m.getName()));
        }
    }

    /** Each method declares what the document's face names, in its order. */
    private static void declaredThrows() {
        Map<String, List<Class<?>>> due = new TreeMap<>(Map.of(
                "feed", List.of(UnsupportedOperationException.class),
                "end", List.of(IllegalArgumentException.class),
                "byteAt", List.of(IndexOutOfBoundsException.class),
                "codeword", List.of(IndexOutOfBoundsException.class),
                "make", List.of(IllegalArgumentException.class, UnsupportedOperationException.class),
                "blank", List.of(IllegalArgumentException.class),
                "place", List.of(IllegalStateException.class, IndexOutOfBoundsException.class),
                "put", List.of(IllegalStateException.class, IndexOutOfBoundsException.class, IllegalArgumentException.class),
                "solve", List.of(IllegalStateException.class, UnsupportedOperationException.class),
                "solved", List.of(IndexOutOfBoundsException.class)));
        due.put("count", List.of(IllegalArgumentException.class));
        due.put("codewords", List.of());
        for (Method m : StackedRows.class.getDeclaredMethods()) {
            if (Modifier.isPublic(m.getModifiers())) {
                List<Class<?>> got = List.of(m.getExceptionTypes());
                Expect.isTrue(m.getName() + " throws " + got, got.equals(due.get(m.getName())));
            }
        }
    }

    /** All rows are made in the constructor: 512 of the dearest calls make nothing. */
    private static void room() {
        dearCalls(new StackedRows());
        com.sun.management.ThreadMXBean threads =
                (com.sun.management.ThreadMXBean) ManagementFactory.getThreadMXBean();
        long before = threads.getCurrentThreadAllocatedBytes();
        StackedRows x = new StackedRows();
        long made = threads.getCurrentThreadAllocatedBytes();
        dearCalls(x);
        long after = threads.getCurrentThreadAllocatedBytes();
        Expect.isTrue("an object takes " + (made - before), made - before < 4 * 14_000);
        Expect.isTrue("its calls take " + (after - made), after - made < 20_000);
    }

    private static void dearCalls(StackedRows x) {
        for (int round = 0; round < 39; round++) {
            x.end(0);
            x.feed(round, 0x31323334, 0x35363738, 0x39303132, 0x33343536);
            x.codewords();
            x.make(8, 29);
            for (int i = 0; i < 4; i++) {
                x.put(i, 3 + i, i);
                x.put(i, 9 + i, StackedRows.LOST);
            }
            x.solve();
        }
    }

    /** "An object is used for at most 512 calls": the last of them is answered as the first. */
    private static void lastCalls() {
        Rows x = Tools.made("ABCDE", 8, 29);
        x.put(0, 1, 7);
        while (x.calls() < Rows.MOST_CALLS - 6) {
            Expect.equal("solve, call " + x.calls(), x.solve(), 5);
        }
        Expect.equal("wrong ones", x.solved(2), 1);
        Expect.equal("bytes", x.count(0), 5);
        Expect.equal("the first codeword", x.codeword(0), 1);
        Expect.thrown("codeword(3)", IndexOutOfBoundsException.class, () -> x.codeword(3));
        Expect.equal("feed", x.feed(1, 2, 3, 4, 5), 25);
        Expect.equal("the 512th call", x.solve(), 5);
        Rows most = new Rows();
        Expect.equal("all are checks but the length", most.make(8, 19), 27);
        for (int i = 1; i <= 510; i++) {
            Tools.putCodeword(most, i, StackedRows.LOST);
        }
        Expect.equal("the 512th call, with the most lost", most.solve(), 0);
    }
}
