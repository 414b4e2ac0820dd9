/** Sentences of the document in their ordinary use: those of the terms, then those of the promises. */
public final class SentencesTest {
    private static final ByPromise tests = new ByPromise(new Check("SentencesTest"));

    public static void main(String[] args) {
        tests.runAll(SentencesTest.class, 0, 0);
    }

    private static EchoChamber withRooms(int rooms) {
        EchoChamber x = new EchoChamber();
        for (int i = 0; i < rooms; i++) {
            x.addRoom();
        }
        return x;
    }

    /** One room, whose answer 0 has these samples, and a filter for it. */
    private static EchoChamber withFilter(int... samples) {
        EchoChamber x = withRooms(1);
        x.measure(0, 0, samples[0], samples[1], samples[2], samples[3]);
        x.makeFilter(0);
        return x;
    }

    private static void dueThrow(String what, Check.Call call, Class<? extends RuntimeException> want) {
        tests.due(what, Check.told(call), "throws." + want.getSimpleName());
    }

    private static void dueState(EchoChamber x, int room, int curtains, int seats, boolean areOpen) {
        tests.due("curtains of " + room, x.curtains(room), curtains);
        tests.due("seats of " + room, x.seats(room), seats);
        tests.due("doors of " + room, x.areOpen(room), areOpen);
    }

    // The terms: what all is about

    @Says("Rooms have states of curtains, seats and doors, answers are ..")
    static void p00_aFilterIsUsedInItsStateAlone() {
        EchoChamber x = withRooms(1);
        x.setState(0, 2, 5, true);
        x.measure(0, 4, 1, 2, -1, 0);
        x.makeFilter(0);
        int[] answer = {1, 2, -1, 0, 0, 0};
        for (int i = 0; i < 6; i++) {
            tests.due("the answer undone, " + i, x.use(0, answer[i]), i == 0 ? 1L : 0L);
        }
        x.setState(0, 2, 5, false);
        dueThrow("in another state", () -> x.use(0, 1), ByPromise.BARRED);
        x.setState(0, 2, 5, true);
        tests.due("in its state", x.use(0, 1), 1L - 169L);
        x.measure(0, 4, 1, 2, -1, 0);
        dueThrow("not for the latest answer", () -> x.use(0, 1), ByPromise.BARRED);
        x.makeFilter(1);
        x.pass(25);
        dueThrow("too old", () -> x.use(1, 1), ByPromise.BARRED);
    }

    @Says("Rooms have states of curtains, seats and doors, answers are ..")
    static void p00_aStateHasToBeSetUpForABooking() {
        EchoChamber x = withRooms(1);
        x.book(0, 2, 5, true, 10, 11);
        dueThrow("too short for three parts", () -> x.book(0, 0, 0, false, 14, 14), ByPromise.BARRED);
        tests.due("long enough for two", x.book(0, 0, 0, true, 14, 14), 1);
    }

    @Says("What a filter gives is found tap by tap, and each filter is ..")
    static void p00_tapByTapAndSampleBySample() {
        EchoChamber x = withFilter(1, 3, -2, 5);
        long[] taps = {1, -3, 11, -44, 169, -650};
        for (int k = 0; k < 6; k++) {
            tests.due("tap " + k, x.tap(0, k), taps[k]);
            tests.due("given " + k, x.use(0, k == 0 ? 1 : 0), taps[k]);
            tests.due("sample " + k, x.product(0, 0, k), k == 0 ? 1L : 0L);
        }
        tests.due("checked", x.isChecked(0), true);
    }

    // The terms: rooms and states

    @Says("At most 4 rooms have the numbers 0 to n - 1 in the order in which ..")
    static void p02_roomsAreNumberedInTheirOrder() {
        EchoChamber x = new EchoChamber();
        for (int i = 0; i < 4; i++) {
            tests.due("number", x.addRoom(), i);
            int next = i + 1;
            dueThrow("the next one", () -> x.changes(next), ByPromise.NO_SUCH);
            x.setState(i, i, 2 * i, i > 1);
        }
        for (int i = 0; i < 4; i++) {
            dueState(x, i, i, 2 * i, i > 1);
        }
        dueThrow("a fifth one", x::addRoom, ByPromise.STATE);
    }

    @Says("A state consists of curtains from 0 to 3, seats from 0 to 9, and ..")
    static void p03_eachOfTheEightyStatesIsTaken() {
        EchoChamber x = withRooms(1);
        dueState(x, 0, 0, 0, false);
        for (int state = 0; state < 80; state++) {
            x.setState(0, state / 20, state / 2 % 10, state % 2 == 1);
            dueState(x, 0, state / 20, state / 2 % 10, state % 2 == 1);
        }
    }

    @Says("Two states differ in as many parts as are not the same, up to 3.")
    static void p03_asManyPartsAsAreNotTheSame() {
        EchoChamber x = withRooms(1);
        tests.due("curtains, seats and doors", x.setState(0, 3, 9, true), 3);
        tests.due("none", x.setState(0, 3, 9, true), 0);
        tests.due("curtains by 1", x.setState(0, 2, 9, true), 1);
        tests.due("curtains by 2", x.setState(0, 0, 9, true), 1);
        tests.due("seats by 8", x.setState(0, 0, 1, true), 1);
        tests.due("doors", x.setState(0, 0, 1, false), 1);
        tests.due("curtains and seats, turned about", x.setState(0, 1, 0, false), 2);
        tests.due("seats and doors", x.setState(0, 1, 7, true), 2);
        tests.due("curtains and doors", x.setState(0, 3, 7, false), 2);
    }

    @Says({"A room counts its changes: each one adds the number of parts that differ.",
        "Returns how many changes a room has counted."})
    static void p07_eachChangeAddsItsParts() {
        EchoChamber x = withRooms(2);
        int changes = 0;
        for (int i = 1; i <= 40; i++) {
            changes += x.setState(0, i % 4, i % 3, i % 2 == 1);
            tests.due("after change " + i, x.changes(0), changes);
        }
        tests.due("all parts of forty changes", changes, 3 * 40);
        tests.due("of the other room", x.changes(1), 0);
        x.book(1, 3, 0, true, 2, 2);
        x.pass(2);
        tests.due("of a booking", x.changes(1), 2);
        tests.due("of the first room still", x.changes(0), changes);
    }

    // The terms: answers

    @Says("At most 40 answers have the numbers 0 to n - 1 in the order in ..")
    static void p08_answersAreNumberedInTheirOrder() {
        EchoChamber x = withRooms(4);
        for (int i = 0; i < 40; i++) {
            tests.due("number", x.measure(i % 4, i * 7 % 10, 1, i % 10, -(i / 10), 0), i);
        }
        for (int i = 0; i < 40; i++) {
            tests.due("second sample of " + i, x.sample(i, 1), i % 10);
            tests.due("third sample of " + i, x.sample(i, 2), -(i / 10));
        }
        dueThrow("one more", () -> x.measure(0, 0, 1, 0, 0, 0), ByPromise.STATE);
    }

    @Says({"An answer is for a room, the state that it has, and a place from 0 ..",
        "Measures an answer for the state of a room.", "Returns the number of the answer."})
    static void p08_anAnswerIsForTheStateThatTheRoomHas() {
        EchoChamber x = withRooms(2);
        x.setState(1, 3, 8, true);
        tests.due("number", x.measure(1, 6, -1, 9, -9, 4), 0);
        x.setState(1, 0, 0, false);
        x.setState(0, 3, 8, true);
        tests.due("for its state", x.latest(1, 6, 3, 8, true), 0);
        dueThrow("for no later state", () -> x.latest(1, 6, 0, 0, false), ByPromise.NONE);
        dueThrow("for no other room", () -> x.latest(0, 6, 3, 8, true), ByPromise.NONE);
        dueThrow("for no other place", () -> x.latest(1, 5, 3, 8, true), ByPromise.NONE);
        int[] samples = {-1, 9, -9, 4};
        for (int k = 0; k < 4; k++) {
            tests.due("sample " + k, x.sample(0, k), samples[k]);
        }
        tests.due("states of room 1", x.statesMeasured(1), 1);
    }

    @Says({"The latest answer for a room, a state and a place takes the place ..",
        "Returns the latest answer for a room, a place and a state."})
    static void p11_theLatestTakesThePlaceOfEarlierOnes() {
        EchoChamber x = withRooms(2);
        for (int i = 0; i < 30; i++) {
            int room = i % 2;
            int place = i % 3;
            boolean areOpen = i % 5 == 0;
            x.setState(room, 0, 0, areOpen);
            int answer = x.measure(room, place, 1, 0, 0, 0);
            tests.due("the latest", x.latest(room, place, 0, 0, areOpen), answer);
        }
        tests.due("room 0, place 2, open", x.latest(0, 2, 0, 0, true), 20);
        tests.due("room 0, place 2, shut", x.latest(0, 2, 0, 0, false), 26);
        tests.due("room 1, place 0, open", x.latest(1, 0, 0, 0, true), 15);
        tests.due("room 1, place 0, shut", x.latest(1, 0, 0, 0, false), 27);
    }

    @Says({"The age of an answer is the number of hours since it was measured, ..",
        "Returns the age of an answer."})
    static void p10_hoursAndTwiceTheChangesSince() {
        EchoChamber x = withRooms(2);
        x.setState(0, 1, 1, true);
        x.pass(7);
        x.measure(0, 0, 1, 0, 0, 0);
        tests.due("at once", x.age(0), 0);
        x.setState(1, 3, 3, true);
        tests.due("changes of another room", x.age(0), 0);
        x.pass(10);
        tests.due("ten hours", x.age(0), 10);
        x.setState(0, 2, 1, false);
        tests.due("and two parts", x.age(0), 14);
        x.setState(0, 2, 1, false);
        tests.due("and none", x.age(0), 14);
        x.measure(0, 0, 1, 0, 0, 0);
        x.book(0, 0, 0, true, 20, 20);
        x.pass(4);
        tests.due("and the three of a booking", x.age(0), 24);
        tests.due("of the later answer", x.age(1), 10);
    }

    // The terms: filters and their use

    @Says("At most 20 filters have the numbers 0 to n - 1 in the order in ..")
    static void p14_filtersAreNumberedInTheirOrder() {
        EchoChamber x = withRooms(1);
        for (int i = 0; i < 19; i++) {
            x.measure(0, 0, 1, i - 9, 0, 0);
        }
        for (int i = 0; i < 20; i++) {
            tests.due("number", x.makeFilter(i * 7 % 19), i);
        }
        for (int i = 0; i < 20; i++) {
            tests.due("answer of " + i, x.answerOf(i), i * 7 % 19);
            tests.due("second tap of " + i, x.tap(i, 1), 9L - i * 7 % 19);
        }
        dueThrow("one more", () -> x.makeFilter(0), ByPromise.STATE);
    }

    @Says({"A filter is made from an answer and has 6 taps: the first tap is ..", "Returns a tap of a filter."})
    static void p16_eachTapIsReckonedFromTheOnesAhead() {
        for (int[] samples : manySamples()) {
            EchoChamber x = withFilter(samples);
            long[] taps = taps(samples);
            for (int k = 0; k < 6; k++) {
                tests.due("tap " + k + " of " + java.util.Arrays.toString(samples), x.tap(0, k), taps[k]);
            }
        }
    }

    @Says({"The product row of a filter and an answer has 6 samples: the ..",
        "Returns a sample of the product row of a filter and an answer."})
    static void p20_eachSampleIsTheSumOfTheDocument() {
        int[][] many = manySamples();
        for (int i = 0; i < many.length; i++) {
            int[] other = many[(i * 37 + 11) % many.length];
            EchoChamber x = withFilter(many[i]);
            x.measure(0, 1, other[0], other[1], other[2], other[3]);
            long[] taps = taps(many[i]);
            for (int n = 0; n < 6; n++) {
                long sum = 0;
                for (int k = 0; k <= 3 && k <= n; k++) {
                    sum += other[k] * taps[n - k];
                }
                tests.due("sample " + n + " of " + i, x.product(0, 1, n), sum);
                tests.due("its own sample " + n + " of " + i, x.product(0, 0, n), n == 0 ? 1L : 0L);
            }
        }
    }

    /** Each first sample, with each of the others least, little, nought or greatest. */
    private static int[][] manySamples() {
        int[] others = {-9, -1, 0, 2, 9};
        int[][] many = new int[250][];
        for (int i = 0; i < 250; i++) {
            many[i] = new int[] {i % 2 == 0 ? 1 : -1, others[i / 2 % 5], others[i / 10 % 5], others[i / 50]};
        }
        return many;
    }

    private static long[] taps(int[] samples) {
        long[] taps = new long[6];
        taps[0] = samples[0];
        for (int n = 1; n < 6; n++) {
            long sum = 0;
            for (int k = 1; k <= 3; k++) {
                sum += n - k < 0 ? 0 : samples[k] * taps[n - k];
            }
            taps[n] = -samples[0] * sum;
        }
        return taps;
    }

    @Says({"The bars of a use of a filter are, in this order: 's' if its room ..",
        "Returns the first bar of a use of a filter.", "Returns 's', 'l' or 'o', or '-' if nothing bars it."})
    static void p17_eachBarComesAndGoes() {
        EchoChamber x = withFilter(1, 0, 0, 0);
        tests.due("none", x.bar(0), '-');
        x.pass(24);
        tests.due("as old as the first limit", x.bar(0), '-');
        x.pass(1);
        tests.due("older", x.bar(0), 'o');
        x.measure(0, 0, 1, 0, 0, 0);
        tests.due("and not the latest", x.bar(0), 'l');
        x.setState(0, 0, 1, false);
        tests.due("and in another state", x.bar(0), 's');
        x.setState(0, 0, 0, false);
        tests.due("in its state again", x.bar(0), 'l');
        x.makeFilter(1);
        tests.due("for the latest", x.bar(1), '-');
        x.setLimit(3);
        tests.due("older by two changes of the state", x.bar(1), 'o');
        x.setLimit(4);
        tests.due("as old as the new limit", x.bar(1), '-');
    }

    @Says({"A filter that is used gets an input: the inputs that it has got, ..",
        "What it gives is the sum, over its taps, of the tap k times the ..", "Uses a filter.",
        "Returns what it gives."})
    static void p18_eachUseGivesTheSumOverTheTaps() {
        int[][] many = manySamples();
        for (int i = 0; i < many.length; i += 7) {
            EchoChamber x = withFilter(many[i]);
            long[] taps = taps(many[i]);
            int[] got = new int[20];
            for (int use = 0; use < got.length; use++) {
                got[use] = (use * use * 613 + i * 59) % 1999 - 999;
                long sum = 0;
                for (int k = 0; k < 6; k++) {
                    sum += use - k < 0 ? 0 : taps[k] * got[use - k];
                }
                tests.due("use " + use + " of " + i, x.use(0, got[use]), sum);
            }
            tests.due("inputs", x.inputs(0), got.length);
        }
    }

    @Says("A filter that is used gets an input: the inputs that it has got, ..")
    static void p18_filtersOfOneAnswerHaveEachAPast() {
        EchoChamber x = withFilter(1, 2, -1, 0);
        x.makeFilter(0);
        x.use(0, 100);
        tests.due("the other one's first", x.use(1, 3), 3L);
        tests.due("the first one's second", x.use(0, 1), 1L - 200L);
        tests.due("the other one's second", x.use(1, 1), 1L - 6L);
    }

    // The terms: bookings and hours

    @Says({"At most 16 bookings have the numbers 0 to n - 1 in the order in ..", "Returns the number of the booking."})
    static void p25_bookingsAreNumberedInTheirOrder() {
        EchoChamber x = withRooms(4);
        for (int i = 0; i < 16; i++) {
            tests.due("number", x.book(i % 4, 1, 1, true, 100 - i, 100 - i), i);
        }
        for (int i = 0; i < 16; i++) {
            tests.due("booking " + i, x.clash(i % 4, 1, 1, true, 100 - i, 100 - i), i);
        }
        dueThrow("one more", () -> x.book(0, 1, 1, true, 1, 1), ByPromise.STATE);
    }

    @Says({"A booking is for a room, a state, and the hours from a first one ..", "Makes a booking."})
    static void p25_aBookingIsForARoomAStateAndHours() {
        EchoChamber x = withRooms(2);
        x.pass(5);
        dueThrow("not later than the present hour", () -> x.book(1, 2, 7, true, 5, 9), ByPromise.BAD);
        x.book(1, 2, 7, true, 8, 9);
        tests.due("its room's next", x.nextBooking(1), 0);
        dueThrow("the other room's", () -> x.nextBooking(0), ByPromise.NONE);
        dueThrow("the hour ahead of it", () -> x.clash(1, 2, 7, true, 7, 7), ByPromise.NONE);
        tests.due("its first hour", x.clash(1, 2, 7, true, 8, 8), 0);
        tests.due("its last hour", x.clash(1, 2, 7, true, 9, 9), 0);
        dueThrow("the hour after it", () -> x.clash(1, 2, 7, true, 10, 10), ByPromise.NONE);
        dueState(x, 1, 0, 0, false);
        x.pass(3);
        dueState(x, 1, 2, 7, true);
        dueState(x, 0, 0, 0, false);
    }

    @Says({"A booking is for a room, a state, and the hours from a first one ..", "Cancels a booking.",
        "Returns the number of bookings that are not cancelled then."})
    static void p27_aCancelledBookingIsAsNone() {
        EchoChamber x = withRooms(2);
        x.book(0, 2, 7, true, 8, 9);
        x.book(1, 1, 1, true, 8, 9);
        x.book(0, 2, 7, true, 20, 21);
        tests.due("left", x.cancel(0), 2);
        dueThrow("it clashes no more", () -> x.clash(0, 0, 0, false, 8, 9), ByPromise.NONE);
        tests.due("it is not the next", x.nextBooking(0), 2);
        tests.due("the others begin", x.pass(9), 1);
        dueState(x, 0, 0, 0, false);
        dueState(x, 1, 1, 1, true);
    }

    @Says({"It clashes with another booking of the room that is not cancelled ..",
        "Throws `UnsupportedOperationException` if it clashes with a booking"})
    static void p25_eachBookingNextToAnother() {
        for (int first = 1; first <= 16; first++) {
            for (int last = first; last <= 16; last++) {
                for (int parts = 0; parts <= 3; parts++) {
                    EchoChamber x = withRooms(1);
                    x.book(0, 0, 0, false, 7, 9);
                    int from = first;
                    int to = last;
                    int curtains = parts > 0 ? 2 : 0;
                    int seats = parts > 1 ? 5 : 0;
                    boolean areOpen = parts > 2;
                    boolean isFree = isFree(7 - parts, 9 + parts, first, last);
                    tests.due("parts " + parts + ", from " + first + " to " + last,
                            Check.told(() -> x.book(0, curtains, seats, areOpen, from, to)),
                            isFree ? "1" : "throws.UnsupportedOperationException");
                }
            }
        }
    }

    /** Whether none of the hours is one of the taken ones. */
    private static boolean isFree(int firstTaken, int lastTaken, int first, int last) {
        for (int hour = first; hour <= last; hour++) {
            if (hour >= firstTaken && hour <= lastTaken) {
                return false;
            }
        }
        return true;
    }

    @Says({"The hour is 0 at first, and 9999 is the last one.", "Lets hours pass."})
    static void p28_fromTheFirstHourToTheLast() {
        EchoChamber x = withRooms(1);
        tests.due("at first", x.hour(), 0);
        Scenes.passTo(x, 9998);
        tests.due("passed", x.hour(), 9998);
        x.pass(1);
        tests.due("at last", x.hour(), 9999);
        dueThrow("no more", () -> x.pass(1), ByPromise.BAD);
    }

    @Says({"When an hour passes, it increases by 1; then, by rising numbers, ..",
        "Returns how many bookings give their rooms their states in them."})
    static void p28_eachBookingGivesItsStateInItsFirstHour() {
        EchoChamber x = withRooms(3);
        x.book(2, 1, 2, true, 3, 3);
        x.book(0, 2, 4, false, 2, 9);
        x.book(1, 3, 6, true, 3, 5);
        x.book(1, 3, 5, true, 7, 7);
        x.book(2, 3, 9, true, 6, 6);
        x.cancel(4);
        tests.due("hour 1", x.pass(1), 0);
        dueState(x, 0, 0, 0, false);
        tests.due("hour 2", x.pass(1), 1);
        dueState(x, 0, 2, 4, false);
        dueState(x, 1, 0, 0, false);
        tests.due("hour 3", x.pass(1), 2);
        dueState(x, 1, 3, 6, true);
        dueState(x, 2, 1, 2, true);
        x.setState(0, 0, 0, true);
        tests.due("hours 4 to 6", x.pass(3), 0);
        dueState(x, 0, 0, 0, true);
        dueState(x, 2, 1, 2, true);
        tests.due("hours 7 to 20", x.pass(14), 1);
        dueState(x, 1, 3, 5, true);
        tests.due("changes", x.changes(1), 4);
        tests.due("hour", x.hour(), 20);
    }

    // The terms: exceptions

    @Says("A method that throws an exception changes nothing.")
    static void p00_refusedCallsOfRoomsAndAnswersChangeNothing() {
        unchanged(ByPromise.STATE, 2, (x, n) -> x.addRoom());
        unchanged(ByPromise.NO_SUCH, 2, (x, n) -> x.setState(4, 1, 1, true));
        unchanged(ByPromise.BAD, 2, (x, n) -> x.setState(0, 1, 10, true));
        unchanged(ByPromise.NO_SUCH, 2, (x, n) -> x.curtains(4));
        unchanged(ByPromise.NO_SUCH, 2, (x, n) -> x.seats(4));
        unchanged(ByPromise.NO_SUCH, 2, (x, n) -> x.areOpen(4));
        unchanged(ByPromise.NO_SUCH, 2, (x, n) -> x.changes(4));
        unchanged(ByPromise.NO_SUCH, 2, (x, n) -> x.measure(4, 0, 1, 0, 0, 0));
        unchanged(ByPromise.BAD, 2, (x, n) -> x.measure(0, 0, 1, 0, 0, 10));
        unchanged(ByPromise.STATE, 2, (x, n) -> x.measure(0, 0, 1, 0, 0, 0));
        unchanged(ByPromise.NO_SUCH, 2, (x, n) -> x.sample(40, 0));
        unchanged(ByPromise.NONE, 2, (x, n) -> x.sample(0, 4));
        unchanged(ByPromise.NO_SUCH, 2, (x, n) -> x.age(40));
        unchanged(ByPromise.NO_SUCH, 2, (x, n) -> x.latest(4, 0, 0, 9, false));
        unchanged(ByPromise.BAD, 2, (x, n) -> x.latest(0, 0, 4, 9, false));
        unchanged(ByPromise.NONE, 2, (x, n) -> x.latest(0, 0, 0, 9, true));
        unchanged(ByPromise.NO_SUCH, 2, (x, n) -> x.statesMeasured(4));
    }

    @Says("A method that throws an exception changes nothing.")
    static void p00_refusedCallsOfFiltersChangeNothing() {
        unchanged(ByPromise.NO_SUCH, 2, (x, n) -> x.makeFilter(40));
        unchanged(ByPromise.STATE, 2, (x, n) -> x.makeFilter(0));
        unchanged(ByPromise.NO_SUCH, 2, (x, n) -> x.answerOf(20));
        unchanged(ByPromise.NO_SUCH, 2, (x, n) -> x.tap(20, 0));
        unchanged(ByPromise.NONE, 2, (x, n) -> x.tap(0, 6));
        unchanged(ByPromise.NO_SUCH, 2, (x, n) -> x.bar(20));
        unchanged(ByPromise.NO_SUCH, 2, (x, n) -> x.use(20, 0));
        unchanged(ByPromise.BAD, 2, (x, n) -> x.use(0, 1000));
        unchanged(ByPromise.BARRED, 6, (x, n) -> x.use(0, 1));
        unchanged(ByPromise.NO_SUCH, 2, (x, n) -> x.inputs(20));
        unchanged(ByPromise.NO_SUCH, 2, (x, n) -> x.product(20, 0, 0));
        unchanged(ByPromise.NO_SUCH, 2, (x, n) -> x.product(0, 40, 0));
        unchanged(ByPromise.NONE, 2, (x, n) -> x.product(0, 0, 6));
        unchanged(ByPromise.NO_SUCH, 2, (x, n) -> x.rightSamples(20, 0));
        unchanged(ByPromise.NO_SUCH, 2, (x, n) -> x.rightSamples(0, 40));
        unchanged(ByPromise.NO_SUCH, 2, (x, n) -> x.isChecked(20));
        unchanged(ByPromise.BAD, 2, (x, n) -> x.setLimit(1000));
    }

    @Says("A method that throws an exception changes nothing.")
    static void p00_refusedCallsOfBookingsAndHoursChangeNothing() {
        unchanged(ByPromise.NO_SUCH, 2, (x, n) -> x.book(4, 0, 0, false, 100, 100));
        unchanged(ByPromise.BAD, 2, (x, n) -> x.book(0, 0, 0, false, 2, 3));
        unchanged(ByPromise.BARRED, 2, (x, n) -> x.book(0, 0, 0, false, 4, 4));
        unchanged(ByPromise.STATE, 2, (x, n) -> x.book(0, 0, 0, false, 100, 100));
        unchanged(ByPromise.NO_SUCH, 2, (x, n) -> x.clash(4, 0, 0, false, 5, 5));
        unchanged(ByPromise.BAD, 2, (x, n) -> x.clash(0, 0, 0, false, 5, 4));
        unchanged(ByPromise.NONE, 2, (x, n) -> x.clash(0, 0, 0, false, 100, 100));
        unchanged(ByPromise.NO_SUCH, 2, (x, n) -> x.cancel(16));
        unchanged(ByPromise.STATE, 2, (x, n) -> x.cancel(15));
        unchanged(ByPromise.STATE, 6, (x, n) -> x.cancel(0));
        unchanged(ByPromise.BAD, 2, (x, n) -> x.pass(49));
        tests.refused(ByPromise.BAD, Scenes::atHour, 9990, (x, hours) -> x.pass(hours), 10);
        unchanged(ByPromise.NO_SUCH, 2, (x, n) -> x.nextBooking(4));
        unchanged(ByPromise.NONE, 40, (x, n) -> x.nextBooking(0));
        tests.refused(ByPromise.NONE, Scenes::filters, 0, (x, n) -> x.usableShare(), 0);
    }

    private static void unchanged(Class<? extends RuntimeException> want, int hour, ByPromise.Call call) {
        tests.refused(want, Scenes::full, hour, call, 0);
    }

    // The promises' own sentences

    @Says("Creates a laboratory without rooms, at the hour 0.")
    static void p01_aNewObjectHasNoRoomsAndTheHour0() {
        EchoChamber x = new EchoChamber();
        tests.due("hour", x.hour(), 0);
        dueThrow("room 0", () -> x.seats(0), ByPromise.NO_SUCH);
        tests.due("the first room", x.addRoom(), 0);
    }

    @Says({"Gives a room a state.", "Returns in how many parts it differs from the state before."})
    static void p03_theStateIsTheRoomsAndThePartsAreReturned() {
        EchoChamber x = withRooms(2);
        tests.due("parts", x.setState(1, 3, 4, true), 3);
        dueState(x, 1, 3, 4, true);
        dueState(x, 0, 0, 0, false);
        tests.due("parts of the next", x.setState(1, 3, 5, false), 2);
        dueState(x, 1, 3, 5, false);
    }

    @Says({"Returns for how many different states of a room there are answers.", "Returns the number of states."})
    static void p12_differentStatesOfARoom() {
        EchoChamber x = withRooms(2);
        for (int i = 0; i < 8; i++) {
            x.setState(0, i & 1, i >> 1 & 1, i > 3);
            x.measure(0, i, 1, 0, 0, 0);
            tests.due("after state " + i, x.statesMeasured(0), i + 1);
            x.measure(0, 9 - i, 1, 0, 0, 0);
            tests.due("after a second answer for it", x.statesMeasured(0), i + 1);
            x.measure(1, i, 1, 0, 0, 0);
            tests.due("of the other room", x.statesMeasured(1), 1);
        }
    }

    @Says({"Makes a filter from an answer.", "Returns the number of the filter.",
        "A filter is made from an answer and has 6 taps: the first tap is .."})
    static void p14_aFilterIsMadeFromItsAnswer() {
        EchoChamber x = withRooms(1);
        x.measure(0, 0, -1, 3, 0, 9);
        x.measure(0, 1, 1, 2, -1, 0);
        tests.due("the first filter", x.makeFilter(1), 0);
        tests.due("the second filter", x.makeFilter(0), 1);
        tests.due("last tap of the first", x.tap(0, 5), -70L);
        tests.due("last tap of the second", x.tap(1, 5), -486L);
        tests.due("inputs", x.inputs(1), 0);
    }

    @Says({"Returns the answer from which a filter was made.", "Returns the number of the answer."})
    static void p15_theAnswerFromWhichItWasMade() {
        EchoChamber x = Scenes.answers(40);
        int[] answers = {39, 0, 17, 17, 3};
        for (int i = 0; i < answers.length; i++) {
            tests.due("answer", x.answerOf(x.makeFilter(answers[i])), answers[i]);
        }
        tests.due("made ahead of them", x.answerOf(0), 39);
    }

    @Says({"Returns how many samples of the product row of a filter and an ..",
        "Returns the number of samples, 6 if all are."})
    static void p21_rightSamplesFromTheFirstOneOn() {
        EchoChamber x = withFilter(1, 2, 3, 4);
        x.measure(0, 1, 1, 2, 3, 5);
        x.measure(0, 1, 1, 2, 4, 4);
        x.measure(0, 1, 1, 3, 3, 4);
        x.measure(0, 1, -1, 2, 3, 4);
        int[] right = {6, 3, 2, 1, 0};
        for (int answer = 0; answer < right.length; answer++) {
            tests.due("answer " + answer, x.rightSamples(0, answer), right[answer]);
        }
    }

    @Says({"Sets the limit.", "Returns the limit before."})
    static void p23_theLimitBarsAsItIsSet() {
        EchoChamber x = withFilter(1, 0, 0, 0);
        x.pass(10);
        tests.due("before", x.setLimit(9), 24);
        tests.due("bar", x.bar(0), 'o');
        tests.due("before the next", x.setLimit(10), 9);
        tests.due("no bar", x.bar(0), '-');
        tests.due("usable", x.usable(), 1);
    }

    @Says({"Returns the booking with the lowest number with which such a ..", "Returns the number of the booking."})
    static void p26_theLowestNumberThatClashes() {
        EchoChamber x = withRooms(2);
        x.book(1, 0, 0, false, 10, 40);
        x.book(0, 0, 0, false, 30, 31);
        x.book(0, 0, 0, false, 20, 21);
        x.book(0, 0, 0, false, 10, 11);
        tests.due("all of them", x.clash(0, 0, 0, false, 11, 30), 1);
        tests.due("two of them", x.clash(0, 0, 0, false, 11, 20), 2);
        tests.due("one by its parts", x.clash(0, 1, 1, true, 14, 14), 3);
        x.cancel(1);
        tests.due("when the lowest is cancelled", x.clash(0, 0, 0, false, 11, 30), 2);
        tests.due("of the other room", x.clash(1, 0, 0, false, 11, 30), 0);
        tests.due("nothing is booked by asking", x.book(0, 0, 0, false, 30, 31), 4);
    }

    @Says({"Returns the booking of a room that begins next, later than in ..", "Returns the number of the booking."})
    static void p30_theOneThatBeginsNext() {
        EchoChamber x = withRooms(2);
        x.book(0, 0, 0, false, 30, 31);
        x.book(0, 0, 0, false, 10, 11);
        x.book(1, 0, 0, false, 5, 6);
        x.book(0, 0, 0, false, 8, 8);
        x.cancel(3);
        tests.due("next", x.nextBooking(0), 1);
        tests.due("of the other room", x.nextBooking(1), 2);
        x.pass(10);
        tests.due("in the first hour of that one", x.nextBooking(0), 0);
        dueThrow("of the other room then", () -> x.nextBooking(1), ByPromise.NONE);
    }

    @Says({"Returns the share of the filters of which a use is not barred.",
        "Returns their number divided by that of all filters, both converted to float."})
    static void p31_theShareOfThree() {
        EchoChamber x = withFilter(1, 0, 0, 0);
        x.measure(0, 1, 1, 0, 0, 0);
        x.makeFilter(1);
        x.makeFilter(1);
        tests.due("all", x.usableShare(), 1.0f);
        x.measure(0, 0, 1, 0, 0, 0);
        tests.due("two of three", x.usableShare(), 0.6666667f);
        x.measure(0, 1, 1, 0, 0, 0);
        tests.due("none of three", x.usableShare(), 0.0f);
    }
}
