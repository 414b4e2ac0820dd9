import java.lang.reflect.InvocationTargetException;
import java.lang.reflect.Method;
import java.util.Set;
import java.util.TreeMap;
import java.util.TreeSet;
import java.util.function.IntFunction;

/** Runs tests by promise: methods named p, the number of the promise that they test (0 the terms), and what is due. */
final class ByPromise {
    static final Class<IndexOutOfBoundsException> NO_SUCH = IndexOutOfBoundsException.class;
    static final Class<IllegalArgumentException> BAD = IllegalArgumentException.class;
    static final Class<IllegalStateException> STATE = IllegalStateException.class;
    static final Class<UnsupportedOperationException> BARRED = UnsupportedOperationException.class;
    static final Class<java.util.NoSuchElementException> NONE = java.util.NoSuchElementException.class;

    /** A call with one number that is tested. */
    interface Call {
        void with(EchoChamber x, int number);
    }

    private final Check check;
    private String test = "";

    ByPromise(Check check) {
        this.check = check;
    }

    void runAll(Class<?> tests, int firstPromise, int lastPromise) {
        TreeMap<String, Method> byName = new TreeMap<>();
        for (Method method : tests.getDeclaredMethods()) {
            if (method.getName().matches("p\\d\\d_\\w+")) {
                byName.put(method.getName(), method);
            }
        }
        Set<Integer> promises = new TreeSet<>();
        for (Method method : byName.values()) {
            run(method);
            promises.add(Integer.valueOf(method.getName().substring(1, 3)));
        }
        for (int i = firstPromise; i <= lastPromise; i++) {
            check.due("promise " + i + " has a test", promises.contains(i), true);
        }
        check.end();
    }

    private void run(Method method) {
        test = method.getName();
        try {
            method.setAccessible(true);
            method.invoke(null);
        } catch (InvocationTargetException e) {
            check.due(test, e.getCause(), "no exception");
        } catch (IllegalAccessException e) {
            check.due(test, e, "no exception");
        }
    }

    void due(String what, Object got, Object want) {
        check.due(test + ": " + what, got, want);
    }

    /** The call throws just this and changes nothing. */
    void refused(Class<? extends RuntimeException> want, IntFunction<EchoChamber> scene, int size, Call call,
            int... numbers) {
        for (int number : numbers) {
            check.refused(test + ": " + number + " of " + size, want, () -> scene.apply(size),
                    x -> call.with(x, number));
        }
    }

    /** The numbers next to the ends of a range, and those farthest from it. */
    static int[] outside(int least, int most) {
        return new int[] {least - 1, most + 1, Integer.MIN_VALUE, Integer.MAX_VALUE};
    }

    void noSuchRoom(Call call) {
        noSuch(Scenes::rooms, call, 0, 1, 3, 4);
    }

    void noSuchAnswer(Call call) {
        noSuch(Scenes::answers, call, 0, 1, 39, 40);
    }

    void noSuchFilter(Call call) {
        noSuch(Scenes::filters, call, 0, 1, 19, 20);
    }

    void noSuchBooking(Call call) {
        noSuch(Scenes::bookings, call, 0, 1, 15, 16);
    }

    private void noSuch(IntFunction<EchoChamber> scene, Call call, int... sizes) {
        for (int size : sizes) {
            refused(NO_SUCH, scene, size, call, outside(0, size - 1));
        }
    }
}
