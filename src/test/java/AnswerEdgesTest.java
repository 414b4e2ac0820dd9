/** The edges of promises 8 to 13. */
public final class AnswerEdgesTest {
    private static final ByPromise edges = new ByPromise(new Check("AnswerEdgesTest"));

    public static void main(String[] args) {
        edges.runAll(AnswerEdgesTest.class, 8, 13);
    }

    // Promise 8: measure

    @Says("Throws `IndexOutOfBoundsException` if there is no such room")
    static void p08_noSuchRoom() {
        edges.noSuchRoom((x, room) -> x.measure(room, 0, 1, 0, 0, 0));
    }

    static void p08_theLastOfFourRooms() {
        EchoChamber x = Scenes.rooms(4);
        edges.due("number", x.measure(3, 0, 1, 0, 0, 0), 1);
        edges.due("latest", x.latest(3, 0, 3, 6, true), 1);
    }

    @Says("An answer is for a room, the state that it has, and a place from 0 ..")
    static void p08_places0To9AreTaken() {
        EchoChamber x = Scenes.answers(0);
        for (int place = 0; place <= 9; place++) {
            edges.due("number", x.measure(0, place, 1, 0, 0, 0), place);
            edges.due("latest", x.latest(0, place, 0, 0, false), place);
        }
    }

    @Says({
        "Throws `IllegalArgumentException` if there is no such place, the ..",
        "An answer is for a room, the state that it has, and a place from 0 .."})
    static void p08_otherPlacesAreRefused() {
        edges.refused(ByPromise.BAD, Scenes::answers, 2, (x, place) -> x.measure(0, place, 1, 0, 0, 0),
                ByPromise.outside(0, 9));
    }

    @Says("An answer is for a room, the state that it has, and a place from 0 ..")
    static void p08_aFirstSampleOf1OrMinus1IsTaken() {
        EchoChamber x = Scenes.answers(0);
        for (int first = -1; first <= 1; first += 2) {
            edges.due("first", x.sample(x.measure(0, 0, first, 0, 0, 0), 0), first);
        }
    }

    @Says({
        "Throws `IllegalArgumentException` if there is no such place, the ..",
        "An answer is for a room, the state that it has, and a place from 0 .."})
    static void p08_otherFirstSamplesAreRefused() {
        edges.refused(ByPromise.BAD, Scenes::answers, 2, (x, first) -> x.measure(0, 0, first, 1, 1, 1),
                0, 2, -2, 9, -9, Integer.MAX_VALUE, Integer.MIN_VALUE);
    }

    @Says("An answer is for a room, the state that it has, and a place from 0 ..")
    static void p08_otherSamplesFromMinus9To9AreTaken() {
        EchoChamber x = Scenes.answers(0);
        for (int sample = -9; sample <= 9; sample++) {
            int answer = x.measure(0, 0, 1, sample, -sample, sample);
            edges.due("second", x.sample(answer, 1), sample);
            edges.due("third", x.sample(answer, 2), -sample);
            edges.due("fourth", x.sample(answer, 3), sample);
        }
    }

    @Says({
        "Throws `IllegalArgumentException` if there is no such place, the ..",
        "An answer is for a room, the state that it has, and a place from 0 .."})
    static void p08_aSecondSampleOutOfRangeIsRefused() {
        edges.refused(ByPromise.BAD, Scenes::answers, 2, (x, sample) -> x.measure(0, 0, 1, sample, 0, 0),
                ByPromise.outside(-9, 9));
    }

    @Says({
        "Throws `IllegalArgumentException` if there is no such place, the ..",
        "An answer is for a room, the state that it has, and a place from 0 .."})
    static void p08_aThirdSampleOutOfRangeIsRefused() {
        edges.refused(ByPromise.BAD, Scenes::answers, 2, (x, sample) -> x.measure(0, 0, 1, 0, sample, 0),
                ByPromise.outside(-9, 9));
    }

    @Says({
        "Throws `IllegalArgumentException` if there is no such place, the ..",
        "An answer is for a room, the state that it has, and a place from 0 .."})
    static void p08_aFourthSampleOutOfRangeIsRefused() {
        edges.refused(ByPromise.BAD, Scenes::answers, 2, (x, sample) -> x.measure(0, 0, 1, 0, 0, sample),
                ByPromise.outside(-9, 9));
    }

    static void p08_fortyAnswersAreMeasured() {
        EchoChamber x = Scenes.answers(39);
        edges.due("the fortieth", x.measure(0, 4, -1, 9, 8, 7), 39);
        edges.due("its last sample", x.sample(39, 3), 7);
        edges.due("the first one's", x.sample(0, 0), 1);
    }

    @Says({
        "Throws `IllegalStateException` if there are 40 answers",
        "At most 40 answers have the numbers 0 to n - 1 in the order in .."})
    static void p08_oneMoreThanFortyIsRefused() {
        edges.refused(ByPromise.STATE, Scenes::answers, 40, (x, place) -> x.measure(0, place, -1, 1, 1, 1), 0, 9);
    }

    @Says({
        "Returns the number of the answer.",
        "At most 40 answers have the numbers 0 to n - 1 in the order in .."})
    static void p08_fortyOfAllRoomsTogether() {
        EchoChamber x = new EchoChamber();
        x.addRoom();
        x.addRoom();
        for (int i = 0; i < 40; i++) {
            edges.due("number", x.measure(i % 2, 0, 1, 0, 0, 0), i);
        }
        for (int room = 0; room < 2; room++) {
            int full = room;
            edges.due("one more", Check.told(() -> x.measure(full, 0, 1, 0, 0, 0)), "throws.IllegalStateException");
        }
        edges.due("room 0", x.latest(0, 0, 0, 0, false), 38);
        edges.due("room 1", x.latest(1, 0, 0, 0, false), 39);
    }

    @Says("If several exceptions apply, the one that is listed first is thrown.")
    static void p08_noRoomAheadOfABadAnswer() {
        edges.refused(ByPromise.NO_SUCH, Scenes::answers, 2, (x, place) -> x.measure(1, place, 1, 0, 0, 0), -1, 10);
        edges.refused(ByPromise.NO_SUCH, Scenes::answers, 2, (x, first) -> x.measure(-1, 0, first, 0, 0, 0), 0, 2);
        edges.refused(ByPromise.NO_SUCH, Scenes::answers, 2, (x, bad) -> x.measure(1, 0, 1, bad, bad, bad), -10, 10);
    }

    @Says("If several exceptions apply, the one that is listed first is thrown.")
    static void p08_noRoomAheadOfFortyAnswers() {
        edges.refused(ByPromise.NO_SUCH, Scenes::answers, 40, (x, room) -> x.measure(room, 0, 1, 0, 0, 0), 1, -1);
        edges.refused(ByPromise.NO_SUCH, Scenes::answers, 40, (x, room) -> x.measure(room, 10, 0, 10, 10, 10), 1, -1);
    }

    @Says("If several exceptions apply, the one that is listed first is thrown.")
    static void p08_aBadAnswerAheadOfFortyAnswers() {
        edges.refused(ByPromise.BAD, Scenes::answers, 40, (x, place) -> x.measure(0, place, 1, 0, 0, 0), -1, 10);
        edges.refused(ByPromise.BAD, Scenes::answers, 40, (x, first) -> x.measure(0, 0, first, 0, 0, 0), 0, -2, 2);
        edges.refused(ByPromise.BAD, Scenes::answers, 40, (x, bad) -> x.measure(0, 0, 1, bad, 0, 0), -10, 10);
        edges.refused(ByPromise.BAD, Scenes::answers, 40, (x, bad) -> x.measure(0, 0, 1, 0, bad, 0), -10, 10);
        edges.refused(ByPromise.BAD, Scenes::answers, 40, (x, bad) -> x.measure(0, 0, 1, 0, 0, bad), -10, 10);
    }

    // Promise 9: sample

    @Says("Throws `IndexOutOfBoundsException` if there is no such answer")
    static void p09_noSuchAnswer() {
        edges.noSuchAnswer((x, answer) -> x.sample(answer, 0));
    }

    static void p09_theFirstAndTheLastOfFortyAnswers() {
        EchoChamber x = Scenes.answers(40);
        edges.due("first", x.sample(0, 0), 1);
        edges.due("last", x.sample(39, 0), -1);
        edges.due("last", x.sample(39, 1), 9);
    }

    @Says({
        "Returns a sample of an answer.",
        "Returns the sample."})
    static void p09_theIndexes0To3() {
        EchoChamber x = Scenes.rooms(1);
        int[] samples = {-1, 2, 3, -4};
        for (int index = 0; index < 4; index++) {
            edges.due("index " + index, x.sample(0, index), samples[index]);
        }
    }

    @Says("Throws `NoSuchElementException` if there is no such index")
    static void p09_noSuchIndex() {
        edges.refused(ByPromise.NONE, Scenes::answers, 40, (x, index) -> x.sample(39, index), ByPromise.outside(0, 3));
    }

    @Says("If several exceptions apply, the one that is listed first is thrown.")
    static void p09_noAnswerAheadOfNoIndex() {
        edges.refused(ByPromise.NO_SUCH, Scenes::answers, 0, (x, index) -> x.sample(0, index), ByPromise.outside(0, 3));
        edges.refused(ByPromise.NO_SUCH, Scenes::answers, 40, (x, index) -> x.sample(40, index),
                ByPromise.outside(0, 3));
        edges.refused(ByPromise.NO_SUCH, Scenes::answers, 40, (x, index) -> x.sample(-1, index),
                ByPromise.outside(0, 3));
    }

    // Promise 10: age

    @Says("Throws `IndexOutOfBoundsException` if there is no such answer")
    static void p10_noSuchAnswer() {
        edges.noSuchAnswer((x, answer) -> x.age(answer));
    }

    @Says({
        "Returns the age of an answer.",
        "Returns the age."})
    static void p10_theFirstAndTheLastOfFortyAnswers() {
        EchoChamber x = Scenes.answers(39);
        x.measure(0, 0, 1, 0, 0, 0);
        edges.due("first", x.age(0), 2);
        edges.due("last", x.age(39), 0);
    }

    static void p10_anAnswerOfThisHourHasTheAge0() {
        EchoChamber x = Scenes.rooms(1);
        x.setState(0, 3, 3, true);
        edges.due("age", x.age(x.measure(0, 0, 1, 0, 0, 0)), 0);
    }

    static void p10_oneHourIs1AndOneChangeIs2() {
        EchoChamber x = new EchoChamber();
        x.addRoom();
        x.measure(0, 0, 1, 0, 0, 0);
        x.pass(1);
        edges.due("an hour", x.age(0), 1);
        x.setState(0, 1, 0, false);
        edges.due("a change", x.age(0), 3);
    }

    static void p10_fromTheFirstHourToTheLastOne() {
        EchoChamber x = Scenes.bookings(0);
        Scenes.passTo(x, 9999);
        edges.due("age", x.age(0), 9999);
        edges.due("a new one's", x.age(x.measure(0, 0, 1, 0, 0, 0)), 0);
    }

    // Promise 11: latest

    @Says("Throws `IndexOutOfBoundsException` if there is no such room")
    static void p11_noSuchRoom() {
        edges.noSuchRoom((x, room) -> x.latest(room, 5, 0, 9, false));
    }

    static void p11_theLastOfFourRooms() {
        EchoChamber x = Scenes.rooms(4);
        x.measure(3, 5, 1, 0, 0, 0);
        edges.due("room 3", x.latest(3, 5, 3, 6, true), 1);
        edges.due("room 0", x.latest(0, 5, 0, 9, false), 0);
    }

    static void p11_theFirstAndTheLastPlace() {
        EchoChamber x = Scenes.answers(40);
        edges.due("place 0", x.latest(0, 0, 0, 0, false), 30);
        edges.due("place 9", x.latest(0, 9, 0, 0, false), 39);
    }

    @Says("Throws `IllegalArgumentException` if there is no such place, the ..")
    static void p11_noSuchPlace() {
        edges.refused(ByPromise.BAD, Scenes::answers, 40, (x, place) -> x.latest(0, place, 0, 0, false),
                ByPromise.outside(0, 9));
    }

    @Says({
        "Returns the latest answer for a room, a place and a state.",
        "Returns the number of the answer."})
    static void p11_statesFromTheLeastToTheGreatestAreFound() {
        EchoChamber x = Scenes.answers(0);
        for (int i = 0; i < 40; i++) {
            x.setState(0, i / 10, i % 10, i % 3 == 0);
            edges.due("number", x.measure(0, 0, 1, 0, 0, 0), i);
        }
        for (int i = 0; i < 40; i++) {
            edges.due("state " + i, x.latest(0, 0, i / 10, i % 10, i % 3 == 0), i);
        }
    }

    @Says("Throws `IllegalArgumentException` if there is no such place, the ..")
    static void p11_otherCurtainsAreRefused() {
        edges.refused(ByPromise.BAD, Scenes::answers, 40, (x, curtains) -> x.latest(0, 0, curtains, 0, false),
                ByPromise.outside(0, 3));
    }

    @Says("Throws `IllegalArgumentException` if there is no such place, the ..")
    static void p11_otherSeatsAreRefused() {
        edges.refused(ByPromise.BAD, Scenes::answers, 40, (x, seats) -> x.latest(0, 0, 0, seats, false),
                ByPromise.outside(0, 9));
    }

    @Says("Throws `NoSuchElementException` if there is none")
    static void p11_noneIfThereAreNoAnswers() {
        edges.refused(ByPromise.NONE, Scenes::answers, 0, (x, place) -> x.latest(0, place, 0, 0, false), 0, 9);
    }

    @Says("Throws `NoSuchElementException` if there is none")
    static void p11_noneForAnotherPlaceStateOrRoom() {
        edges.refused(ByPromise.NONE, Scenes::rooms, 4, (x, place) -> x.latest(0, place, 0, 9, false), 4, 6);
        edges.refused(ByPromise.NONE, Scenes::rooms, 4, (x, curtains) -> x.latest(0, 5, curtains, 9, false), 1, 3);
        edges.refused(ByPromise.NONE, Scenes::rooms, 4, (x, seats) -> x.latest(0, 5, 0, seats, false), 0, 8);
        edges.refused(ByPromise.NONE, Scenes::rooms, 4, (x, place) -> x.latest(0, place, 0, 9, true), 5);
        edges.refused(ByPromise.NONE, Scenes::rooms, 4, (x, room) -> x.latest(room, 5, 0, 9, false), 1, 3);
    }

    @Says("Throws `NoSuchElementException` if there is none")
    static void p11_noneForTheStateThatTheRoomHasNowAlone() {
        EchoChamber x = Scenes.rooms(1);
        x.setState(0, 0, 8, false);
        edges.due("the present state", Check.told(() -> x.latest(0, 5, 0, 8, false)), "throws.NoSuchElementException");
        edges.due("the state then", x.latest(0, 5, 0, 9, false), 0);
    }

    @Says("The latest answer for a room, a state and a place takes the place ..")
    static void p11_anAnswerOfTheSameHourTakesThePlaceOfTheEarlierOne() {
        EchoChamber x = Scenes.rooms(1);
        edges.due("number", x.measure(0, 5, -1, 2, 3, -4), 1);
        edges.due("number", x.measure(0, 5, -1, 2, 3, -4), 2);
        edges.due("latest", x.latest(0, 5, 0, 9, false), 2);
    }

    static void p11_aRefusedAnswerTakesNoPlace() {
        EchoChamber x = Scenes.answers(40);
        Check.told(() -> x.measure(0, 5, 1, 0, 0, 0));
        edges.due("latest", x.latest(0, 5, 0, 0, false), 35);
    }

    @Says("If several exceptions apply, the one that is listed first is thrown.")
    static void p11_noRoomAheadOfABadPlaceOrState() {
        edges.refused(ByPromise.NO_SUCH, Scenes::rooms, 4, (x, place) -> x.latest(4, place, 0, 9, false), -1, 10);
        edges.refused(ByPromise.NO_SUCH, Scenes::rooms, 4, (x, curtains) -> x.latest(-1, 5, curtains, 9, false), -1, 4);
        edges.refused(ByPromise.NO_SUCH, Scenes::rooms, 0, (x, seats) -> x.latest(0, 5, 0, seats, false), -1, 10);
    }

    @Says("If several exceptions apply, the one that is listed first is thrown.")
    static void p11_aBadPlaceOrStateAheadOfNone() {
        edges.refused(ByPromise.BAD, Scenes::answers, 0, (x, place) -> x.latest(0, place, 0, 0, false), -1, 10);
        edges.refused(ByPromise.BAD, Scenes::answers, 0, (x, curtains) -> x.latest(0, 0, curtains, 0, false), -1, 4);
        edges.refused(ByPromise.BAD, Scenes::answers, 0, (x, seats) -> x.latest(0, 0, 0, seats, false), -1, 10);
    }

    // Promise 12: statesMeasured

    @Says("Throws `IndexOutOfBoundsException` if there is no such room")
    static void p12_noSuchRoom() {
        edges.noSuchRoom((x, room) -> x.statesMeasured(room));
    }

    static void p12_theFirstAndTheLastOfFourRooms() {
        EchoChamber x = Scenes.rooms(4);
        edges.due("room 0", x.statesMeasured(0), 1);
        edges.due("room 3", x.statesMeasured(3), 0);
        x.measure(3, 0, 1, 0, 0, 0);
        edges.due("room 3 then", x.statesMeasured(3), 1);
    }

    static void p12_noneWithoutAnswers() {
        edges.due("states", Scenes.answers(0).statesMeasured(0), 0);
    }

    @Says("Returns for how many different states of a room there are answers.")
    static void p12_oneForFortyAnswersOfOneState() {
        edges.due("states", Scenes.answers(40).statesMeasured(0), 1);
    }

    @Says({
        "Returns for how many different states of a room there are answers.",
        "Returns the number of states."})
    static void p12_fortyForFortyStates() {
        EchoChamber x = Scenes.answers(0);
        for (int i = 0; i < 40; i++) {
            x.setState(0, i / 10, i % 10, i % 3 == 0);
            x.measure(0, 0, 1, 0, 0, 0);
            edges.due("states", x.statesMeasured(0), i + 1);
        }
    }

    static void p12_aRefusedAnswerMeasuresNoState() {
        EchoChamber x = Scenes.answers(40);
        x.setState(0, 0, 1, false);
        edges.due("one more", Check.told(() -> x.measure(0, 0, 1, 0, 0, 0)), "throws.IllegalStateException");
        edges.due("states", x.statesMeasured(0), 1);
    }

    // Promise 13: answers

    @Says("Returns the number of answers.")
    static void p13_fromNoneToForty() {
        EchoChamber x = new EchoChamber();
        edges.due("without rooms", x.answers(), 0);
        x.addRoom();
        for (int i = 0; i < 40; i++) {
            edges.due("answers", x.answers(), i);
            x.measure(0, 0, 1, 0, 0, 0);
        }
        edges.due("all", x.answers(), 40);
    }

    static void p13_aRefusedAnswerIsNotCounted() {
        EchoChamber x = Scenes.answers(40);
        edges.due("one more", Check.told(() -> x.measure(0, 0, 1, 0, 0, 0)), "throws.IllegalStateException");
        edges.due("forty", x.answers(), 40);
        EchoChamber y = Scenes.answers(1);
        edges.due("a bad one", Check.told(() -> y.measure(0, 0, 0, 0, 0, 0)), "throws.IllegalArgumentException");
        edges.due("one", y.answers(), 1);
    }
}
