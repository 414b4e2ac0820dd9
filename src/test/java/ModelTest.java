/** Long runs of calls, made by counting from a seed, on the class and on a model of the document beside it. */
public final class ModelTest {
    private static final int RUNS = 1500;
    private static final int CALLS = 512;
    /** How often each call is made: the number stands for the promise; what builds up a run stands more often. */
    private static final int[] CALLS_BY_WEIGHT = {
        2, 2, 3, 3, 3, 4, 5, 6, 7, 8, 8, 8, 9, 10, 10, 11, 11, 12, 12, 13, 14, 14, 15, 16, 17, 17, 18, 18, 18, 18, 19,
        20, 20, 21, 22, 23, 24, 24, 25, 25, 25, 25, 26, 26, 26, 27, 28, 28, 28, 29, 30, 30, 31, 31};
    private static final int[] ODD = {-1, 10, 49, 999, 1000, 10000, Integer.MAX_VALUE, Integer.MIN_VALUE};

    private static final Check check = new Check("ModelTest");
    private static long seed;

    public static void main(String[] args) {
        for (int run = 0; run < RUNS; run++) {
            seed = run;
            follow(run);
        }
        check.end();
    }

    private static void follow(int run) {
        EchoChamber x = new EchoChamber();
        Model model = new Model();
        int spread = run % 3 == 0 ? 2 : 10;
        for (int i = 0; i < CALLS; i++) {
            int call = i < 3 ? 2 : CALLS_BY_WEIGHT[below(CALLS_BY_WEIGHT.length)];
            boolean areOpen = below(4) == 0;
            int[] a = arguments(call, model, spread);
            String want = Check.told(() -> model.answer(call, a, areOpen));
            String got = Check.told(() -> answer(x, call, a, areOpen));
            check.due("run " + run + ", call " + i + ", promise " + call + java.util.Arrays.toString(a) + areOpen,
                    got, want);
            if (!got.equals(want)) {
                return;
            }
        }
    }

    private static int below(int bound) {
        seed = seed * 6364136223846793005L + 1442695040888963407L;
        return (int) ((seed >>> 33) % bound);
    }

    private static int[] arguments(int call, Model model, int spread) {
        int[] a = inRange(call, (Integer) model.answer(29, null, false), spread);
        if (a.length > 0 && below(12) == 0) {
            a[below(a.length)] = ODD[below(ODD.length)];
        }
        return a;
    }

    private static int[] inRange(int call, int hour, int spread) {
        int curtains = below(Math.min(4, spread));
        int seats = below(spread);
        int first = hour + below(60) - 1;
        switch (call) {
            case 2: case 13: case 24: case 29: case 31:
                return new int[0];
            case 3:
                return new int[] {below(3), curtains, seats};
            case 8:
                return new int[] {below(3), seats, below(2) * 2 - 1, below(19) - 9, below(19) - 9, below(19) - 9};
            case 11:
                return new int[] {below(3), below(spread), curtains, seats};
            case 9:
                return new int[] {below(20), below(5) - below(2)};
            case 16:
                return new int[] {below(10), below(7)};
            case 18:
                return new int[] {below(10), below(1999) - 999};
            case 20:
                return new int[] {below(10), below(20), below(7)};
            case 21:
                return new int[] {below(10), below(20)};
            case 23:
                return new int[] {below(60)};
            case 25: case 26:
                return new int[] {below(3), curtains, seats, first, first + below(6) - below(2)};
            case 28:
                return new int[] {below(20) == 0 ? 48 : below(4)};
            case 4: case 5: case 6: case 7: case 12: case 30:
                return new int[] {below(3)};
            default:
                return new int[] {below(16)};
        }
    }

    private static Object answer(EchoChamber x, int call, int[] a, boolean areOpen) {
        switch (call) {
            case 2: return x.addRoom();
            case 3: return x.setState(a[0], a[1], a[2], areOpen);
            case 4: return x.curtains(a[0]);
            case 5: return x.seats(a[0]);
            case 6: return x.areOpen(a[0]);
            case 7: return x.changes(a[0]);
            case 8: return x.measure(a[0], a[1], a[2], a[3], a[4], a[5]);
            case 9: return x.sample(a[0], a[1]);
            case 10: return x.age(a[0]);
            case 11: return x.latest(a[0], a[1], a[2], a[3], areOpen);
            case 12: return x.statesMeasured(a[0]);
            case 13: return x.answers();
            case 14: return x.makeFilter(a[0]);
            case 15: return x.answerOf(a[0]);
            case 16: return x.tap(a[0], a[1]);
            case 17: return x.bar(a[0]);
            case 18: return x.use(a[0], a[1]);
            case 19: return x.inputs(a[0]);
            case 20: return x.product(a[0], a[1], a[2]);
            case 21: return x.rightSamples(a[0], a[1]);
            case 22: return x.isChecked(a[0]);
            case 23: return x.setLimit(a[0]);
            case 24: return x.usable();
            case 25: return x.book(a[0], a[1], a[2], areOpen, a[3], a[4]);
            case 26: return x.clash(a[0], a[1], a[2], areOpen, a[3], a[4]);
            case 27: return x.cancel(a[0]);
            case 28: return x.pass(a[0]);
            case 29: return x.hour();
            case 30: return x.nextBooking(a[0]);
            case 31: return x.usableShare();
            default: throw new AssertionError("there is no call " + call);
        }
    }
}
