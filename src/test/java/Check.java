import java.util.ArrayList;
import java.util.List;
import java.util.function.Consumer;
import java.util.function.Function;
import java.util.function.Supplier;

/** Counts the answers of one test that are not as due, and prints them. */
final class Check {
    /** A call that may throw. */
    interface Call {
        Object answer();
    }

    private static final List<Function<EchoChamber, List<String>>> LOOKS = List.of(
            Check::lookAtRooms, Check::lookAtAnswers, Check::lookAtPlaces, Check::lookAtFilters,
            Check::lookAtProducts, Check::lookAtBookings, Check::lookAtHours);

    /** Far more than a test takes, so that only a call that does not end takes longer. */
    private static final long MOST_MILLISECONDS = 300_000;

    private final String title;
    private int asked;
    private int wrong;

    Check(String title) {
        this.title = title;
        Thread watch = new Thread(this::failIfItDoesNotEnd);
        watch.setDaemon(true);
        watch.start();
    }

    private void failIfItDoesNotEnd() {
        try {
            Thread.sleep(MOST_MILLISECONDS);
        } catch (InterruptedException e) {
            return;
        }
        System.out.println(title + ": a call does not end");
        Runtime.getRuntime().halt(1);
    }

    void due(String what, Object got, Object want) {
        asked++;
        if (!want.equals(got)) {
            wrong++;
            System.out.println(title + ": " + what + ": answered " + got + ", due is " + want);
        }
    }

    /**
     * Checks that the call throws just this exception, and that an object that has refused it answers as one that
     * was never asked. Each look has objects of its own, so that none gets more calls than the document allows.
     */
    void refused(String what, Class<? extends RuntimeException> want, Supplier<EchoChamber> scene,
            Consumer<EchoChamber> call) {
        for (Function<EchoChamber, List<String>> look : LOOKS) {
            EchoChamber asked = scene.get();
            due(what, told(() -> {
                call.accept(asked);
                return "nothing thrown";
            }), "throws." + want.getSimpleName());
            due(what + " changes nothing", look.apply(asked), look.apply(scene.get()));
        }
    }

    void end() {
        System.out.println(title + ": " + asked + " checks, " + wrong + " not as due");
        if (wrong != 0) {
            System.exit(1);
        }
    }

    /** The answer as a text; of an exception the class itself, so that one of the machine's own shows. */
    static String told(Call call) {
        try {
            return String.valueOf(call.answer());
        } catch (RuntimeException e) {
            String by = isThrownByLibrary(e) ? " by the library" : "";
            return "throws." + e.getClass().getSimpleName() + by;
        }
    }

    /** A list throws the very IndexOutOfBoundsException that the document names: only its thrower tells it apart. */
    private static boolean isThrownByLibrary(RuntimeException e) {
        StackTraceElement[] trace = e.getStackTrace();
        return trace.length == 0 || trace[0].getClassName().startsWith("j");
    }

    private static List<String> lookAtRooms(EchoChamber x) {
        List<String> seen = new ArrayList<>();
        for (int i = 0; i < 4; i++) {
            int room = i;
            seen.add(told(() -> x.curtains(room)));
            seen.add(told(() -> x.seats(room)));
            seen.add(told(() -> x.areOpen(room)));
            seen.add(told(() -> x.changes(room)));
            seen.add(told(() -> x.statesMeasured(room)));
            seen.add(told(() -> x.nextBooking(room)));
        }
        seen.add(told(() -> x.hour()));
        seen.add(told(() -> x.addRoom()));
        return seen;
    }

    private static List<String> lookAtAnswers(EchoChamber x) {
        List<String> seen = new ArrayList<>();
        int answers = x.answers();
        seen.add(String.valueOf(answers));
        for (int i = 0; i < answers; i++) {
            int answer = i;
            seen.add(told(() -> x.age(answer)));
            for (int k = 0; k < 4; k++) {
                int index = k;
                seen.add(told(() -> x.sample(answer, index)));
            }
        }
        for (int i = 0; i < 4; i++) {
            int room = i;
            seen.add(told(() -> x.latest(room, 0, 0, 0, false)));
        }
        seen.add(told(() -> x.measure(0, 0, 1, 0, 0, 0)));
        return seen;
    }

    private static List<String> lookAtPlaces(EchoChamber x) {
        List<String> seen = new ArrayList<>();
        for (int i = 0; i < 40; i++) {
            int room = i / 10;
            int place = i % 10;
            seen.add(told(() -> x.latest(room, place, x.curtains(room), x.seats(room), x.areOpen(room))));
        }
        return seen;
    }

    private static List<String> lookAtFilters(EchoChamber x) {
        List<String> seen = new ArrayList<>();
        seen.add(told(() -> x.usable()));
        seen.add(told(() -> x.usableShare()));
        for (int i = 0; i < 20; i++) {
            int filter = i;
            seen.add(told(() -> x.answerOf(filter)));
            seen.add(told(() -> x.bar(filter)));
            seen.add(told(() -> x.inputs(filter)));
            seen.add(told(() -> x.use(filter, 1)));
            for (int k = 0; k < 6; k++) {
                int index = k;
                seen.add(told(() -> x.tap(filter, index)));
            }
        }
        seen.add(told(() -> x.setLimit(0)));
        seen.add(told(() -> x.makeFilter(0)));
        return seen;
    }

    private static List<String> lookAtProducts(EchoChamber x) {
        List<String> seen = new ArrayList<>();
        for (int i = 0; i < 20; i++) {
            int filter = i;
            seen.add(told(() -> x.isChecked(filter)));
            seen.add(told(() -> x.rightSamples(filter, 0)));
            for (int k = 0; k < 6; k++) {
                int index = k;
                seen.add(told(() -> x.product(filter, 0, index)));
            }
        }
        return seen;
    }

    private static List<String> lookAtBookings(EchoChamber x) {
        List<String> seen = new ArrayList<>();
        for (int i = 0; i < 4; i++) {
            int room = i;
            for (int h = 0; h < 20; h++) {
                int hour = h;
                seen.add(told(() -> x.clash(room, 0, 0, false, hour, hour)));
            }
        }
        seen.add(told(() -> x.book(0, 0, 0, false, 9990, 9990)));
        seen.add(told(() -> x.pass(1)));
        for (int i = 0; i < 16; i++) {
            int booking = i;
            seen.add(told(() -> x.cancel(booking)));
        }
        return seen;
    }

    private static List<String> lookAtHours(EchoChamber x) {
        List<String> seen = new ArrayList<>();
        for (int i = 0; i < 20; i++) {
            seen.add(told(() -> x.pass(1)));
            seen.add(told(() -> x.hour()));
            seen.add(told(() -> x.changes(0)));
            seen.add(told(() -> x.seats(0)));
            seen.add(told(() -> x.nextBooking(0)));
            seen.add(told(() -> x.seats(1)));
            seen.add(told(() -> x.nextBooking(1)));
        }
        seen.add(told(() -> x.age(0)));
        return seen;
    }
}
