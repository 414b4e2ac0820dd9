import java.util.NoSuchElementException;

/** Promises 8 to 13. */
public final class AnswersTest {
    private static final Class<IndexOutOfBoundsException> NO_SUCH = IndexOutOfBoundsException.class;
    private static final Class<IllegalArgumentException> BAD = IllegalArgumentException.class;
    private static final Class<NoSuchElementException> NONE = NoSuchElementException.class;
    private static final int[] FAR = {Integer.MAX_VALUE, Integer.MIN_VALUE};

    private static final Check check = new Check("AnswersTest");

    public static void main(String[] args) {
        measure();
        limitsOfMeasure();
        fullOfAnswers();
        sample();
        age();
        latest();
        limitsOfLatest();
        statesMeasured();
        check.end();
    }

    private static EchoChamber inUse() {
        EchoChamber x = new EchoChamber();
        x.addRoom();
        x.addRoom();
        x.measure(0, 0, 1, 2, 3, 4);
        x.setState(1, 1, 2, true);
        x.measure(1, 9, -1, -9, 0, 9);
        x.makeFilter(1);
        x.use(0, 7);
        x.pass(3);
        return x;
    }

    private static EchoChamber full() {
        EchoChamber x = new EchoChamber();
        x.addRoom();
        for (int i = 0; i < 40; i++) {
            x.measure(0, i % 10, 1, 0, 0, i % 10);
        }
        return x;
    }

    private static void measure() {
        EchoChamber x = inUse();
        check.due("13 two answers", x.answers(), 2);
        check.due("8 lowest place and samples", x.measure(0, 0, -1, -9, -9, -9), 2);
        check.due("8 highest place and samples", x.measure(1, 9, 1, 9, 9, 9), 3);
        check.due("13 four answers", x.answers(), 4);
        check.due("8 the room keeps its state", x.changes(1), 3);
        check.due("8 the state is the one at the time", x.latest(1, 9, 1, 2, true), 3);
    }

    private static void limitsOfMeasure() {
        for (int room : new int[] {-1, 2, FAR[0], FAR[1]}) {
            check.refused("8 room " + room, NO_SUCH, AnswersTest::inUse, x -> x.measure(room, 0, 1, 0, 0, 0));
        }
        for (int place : new int[] {-1, 10, FAR[0], FAR[1]}) {
            check.refused("8 place " + place, BAD, AnswersTest::inUse, x -> x.measure(0, place, 1, 0, 0, 0));
        }
        for (int first : new int[] {0, 2, -2, FAR[0], FAR[1]}) {
            check.refused("8 first " + first, BAD, AnswersTest::inUse, x -> x.measure(0, 0, first, 0, 0, 0));
        }
        for (int s : new int[] {-10, 10, FAR[0], FAR[1]}) {
            check.refused("8 second " + s, BAD, AnswersTest::inUse, x -> x.measure(0, 0, 1, s, 0, 0));
            check.refused("8 third " + s, BAD, AnswersTest::inUse, x -> x.measure(0, 0, 1, 0, s, 0));
            check.refused("8 fourth " + s, BAD, AnswersTest::inUse, x -> x.measure(0, 0, 1, 0, 0, s));
        }
        check.refused("8 the room is looked at first", NO_SUCH, AnswersTest::inUse,
                x -> x.measure(2, 10, 0, 10, 10, 10));
    }

    private static void fullOfAnswers() {
        EchoChamber x = full();
        check.due("13 forty answers", x.answers(), 40);
        check.due("9 the fortieth", x.sample(39, 3), 9);
        check.refused("8 one more", IllegalStateException.class, AnswersTest::full,
                e -> e.measure(0, 0, 1, 0, 0, 0));
        check.refused("8 one more, of no room", NO_SUCH, AnswersTest::full, e -> e.measure(1, 0, 1, 0, 0, 0));
        check.refused("8 one more, of no place", BAD, AnswersTest::full, e -> e.measure(0, 10, 1, 0, 0, 0));
        check.refused("8 one more, a bad first", BAD, AnswersTest::full, e -> e.measure(0, 0, 0, 0, 0, 0));
        check.refused("8 one more, a bad fourth", BAD, AnswersTest::full, e -> e.measure(0, 0, 1, 0, 0, 10));
    }

    private static void sample() {
        EchoChamber x = inUse();
        int[][] samples = {{1, 2, 3, 4}, {-1, -9, 0, 9}};
        for (int answer = 0; answer < 2; answer++) {
            for (int k = 0; k < 4; k++) {
                check.due("9 sample " + k + " of " + answer, x.sample(answer, k), samples[answer][k]);
            }
        }
        for (int index : new int[] {-1, 4, FAR[0], FAR[1]}) {
            check.refused("9 index " + index, NONE, AnswersTest::inUse, e -> e.sample(0, index));
        }
        for (int answer : new int[] {-1, 2, FAR[0], FAR[1]}) {
            check.refused("9 answer " + answer, NO_SUCH, AnswersTest::inUse, e -> e.sample(answer, 0));
            check.refused("10 answer " + answer, NO_SUCH, AnswersTest::inUse, e -> e.age(answer));
        }
        check.refused("9 the answer is looked at first", NO_SUCH, AnswersTest::inUse, e -> e.sample(2, 4));
    }

    private static void age() {
        EchoChamber x = new EchoChamber();
        x.addRoom();
        x.addRoom();
        x.setState(0, 1, 0, false);
        x.pass(5);
        x.measure(0, 0, 1, 0, 0, 0);
        check.due("10 at once", x.age(0), 0);
        x.pass(3);
        check.due("10 three hours", x.age(0), 3);
        x.setState(1, 1, 1, true);
        check.due("10 another room's changes", x.age(0), 3);
        x.setState(0, 2, 2, true);
        check.due("10 three changes", x.age(0), 9);
        x.setState(0, 2, 2, true);
        check.due("10 no change", x.age(0), 9);
        x.measure(0, 0, 1, 0, 0, 0);
        check.due("10 a later one is new", x.age(1), 0);
        check.due("10 the earlier one ages on", x.age(0), 9);
        x.setState(0, 1, 0, false);
        check.due("10 going back counts too", x.age(0), 15);
        x.book(0, 1, 1, false, 10, 10);
        x.pass(2);
        check.due("10 a booking's change", x.age(1), 10);
    }

    private static void latest() {
        EchoChamber x = new EchoChamber();
        x.addRoom();
        x.addRoom();
        x.measure(0, 0, 1, 0, 0, 0);
        x.measure(0, 9, 1, 0, 0, 0);
        x.measure(1, 0, 1, 0, 0, 0);
        check.due("11 the place counts", x.latest(0, 9, 0, 0, false), 1);
        check.due("11 the room counts", x.latest(1, 0, 0, 0, false), 2);
        check.due("11 the first one", x.latest(0, 0, 0, 0, false), 0);
        x.measure(0, 0, -1, 0, 0, 0);
        check.due("11 takes the place", x.latest(0, 0, 0, 0, false), 3);
        x.setState(0, 3, 9, true);
        x.measure(0, 0, 1, 0, 0, 0);
        check.due("11 another state", x.latest(0, 0, 3, 9, true), 4);
        check.due("11 the state before", x.latest(0, 0, 0, 0, false), 3);
    }

    private static void limitsOfLatest() {
        check.refused("11 other curtains", NONE, AnswersTest::inUse, x -> x.latest(0, 0, 1, 0, false));
        check.refused("11 other seats", NONE, AnswersTest::inUse, x -> x.latest(0, 0, 0, 1, false));
        check.refused("11 other doors", NONE, AnswersTest::inUse, x -> x.latest(0, 0, 0, 0, true));
        check.refused("11 another place", NONE, AnswersTest::inUse, x -> x.latest(0, 1, 0, 0, false));
        check.refused("11 another room", NONE, AnswersTest::inUse, x -> x.latest(1, 0, 0, 0, false));
        for (int room : new int[] {-1, 2, FAR[0], FAR[1]}) {
            check.refused("11 room " + room, NO_SUCH, AnswersTest::inUse, x -> x.latest(room, 0, 0, 0, false));
            check.refused("12 room " + room, NO_SUCH, AnswersTest::inUse, x -> x.statesMeasured(room));
        }
        for (int place : new int[] {-1, 10, FAR[0], FAR[1]}) {
            check.refused("11 place " + place, BAD, AnswersTest::inUse, x -> x.latest(0, place, 0, 0, false));
        }
        for (int curtains : new int[] {-1, 4, FAR[0], FAR[1]}) {
            check.refused("11 curtains " + curtains, BAD, AnswersTest::inUse,
                    x -> x.latest(0, 0, curtains, 0, false));
        }
        for (int seats : new int[] {-1, 10, FAR[0], FAR[1]}) {
            check.refused("11 seats " + seats, BAD, AnswersTest::inUse, x -> x.latest(0, 0, 0, seats, false));
        }
        check.refused("11 the room is looked at first", NO_SUCH, AnswersTest::inUse,
                x -> x.latest(2, 10, 4, 10, false));
    }

    private static void statesMeasured() {
        EchoChamber x = new EchoChamber();
        x.addRoom();
        x.addRoom();
        check.due("12 none", x.statesMeasured(0), 0);
        x.measure(0, 0, 1, 0, 0, 0);
        x.measure(0, 0, 1, 0, 0, 0);
        x.measure(0, 5, 1, 0, 0, 0);
        check.due("12 one state, whatever the place", x.statesMeasured(0), 1);
        x.setState(0, 0, 1, false);
        check.due("12 a state without answers", x.statesMeasured(0), 1);
        x.measure(0, 0, 1, 0, 0, 0);
        x.setState(0, 1, 0, false);
        x.measure(0, 0, 1, 0, 0, 0);
        x.setState(0, 0, 0, true);
        x.measure(0, 0, 1, 0, 0, 0);
        check.due("12 each part counts", x.statesMeasured(0), 4);
        x.setState(0, 0, 0, false);
        x.measure(0, 7, 1, 0, 0, 0);
        check.due("12 a state from before", x.statesMeasured(0), 4);
        check.due("12 another room", x.statesMeasured(1), 0);
        x.measure(1, 7, 1, 0, 0, 0);
        check.due("12 the same state of another room", x.statesMeasured(1), 1);
        check.due("12 the first room as before", x.statesMeasured(0), 4);
    }
}
