/** The edges of promises 1 to 7, and of the terms ahead of them. */
public final class RoomEdgesTest {
    private static final ByPromise edges = new ByPromise(new Check("RoomEdgesTest"));

    public static void main(String[] args) {
        edges.runAll(RoomEdgesTest.class, 0, 7);
    }

    // The terms

    @Says("An object is used for at most 512 calls after it has been made; ..")
    static void p00_theLastOf512CallsIsAnswered() {
        EchoChamber x = new EchoChamber();
        x.addRoom();
        x.measure(0, 0, 1, 0, 0, 1);
        x.makeFilter(0);
        for (int i = 4; i < 512; i++) {
            edges.due("call " + i, x.use(0, i), i < 7 ? (long) i : 3L);
        }
        edges.due("call 512", x.inputs(0), 508);
    }

    static void p00_allChangesOf512CallsAreCounted() {
        EchoChamber x = new EchoChamber();
        x.addRoom();
        x.measure(0, 0, 1, 0, 0, 0);
        for (int i = 3; i < 511; i++) {
            edges.due("call " + i, x.setState(0, i % 2 * 3, i % 2 * 9, i % 2 == 1), 3);
        }
        edges.due("changes", x.changes(0), 3 * 508);
        edges.due("age", x.age(0), 2 * 3 * 508);
    }

    static void p00_allRefusedCallsOf512ChangeNothing() {
        EchoChamber x = Scenes.rooms(4);
        for (int i = 20; i < 508; i++) {
            int room = i;
            edges.due("call " + i, Check.told(() -> x.setState(room, 0, 0, true)), "throws.IndexOutOfBoundsException");
        }
        edges.due("curtains", x.curtains(3), 3);
        edges.due("seats", x.seats(3), 6);
        edges.due("changes", x.changes(3), 3);
    }

    @Says("Two states differ in as many parts as are not the same, up to 3.")
    static void p00_statesDifferInNoneToAllThreeParts() {
        for (int parts = 0; parts < 8; parts++) {
            EchoChamber x = Scenes.rooms(4);
            int differ = Integer.bitCount(parts);
            boolean areOpen = (parts & 4) == 0;
            edges.due("parts " + parts, x.setState(3, 3 - (parts & 1), 6 + (parts >> 1 & 1), areOpen), differ);
            edges.due("changes " + parts, x.changes(3), 3 + differ);
        }
    }

    // Promise 1: A new object

    @Says({
        "Creates a laboratory without rooms, at the hour 0.",
        "The hour is 0 at first, and 9999 is the last one."})
    static void p01_theHourIs0() {
        edges.due("hour", new EchoChamber().hour(), 0);
    }

    static void p01_theLimitIs24() {
        edges.due("limit", new EchoChamber().setLimit(0), 24);
    }

    static void p01_thereIsNothingToCount() {
        edges.due("answers", new EchoChamber().answers(), 0);
        edges.due("usable", new EchoChamber().usable(), 0);
        edges.due("bookings that begin", new EchoChamber().pass(48), 0);
    }

    @Says("Creates a laboratory without rooms, at the hour 0.")
    static void p01_thereAreNoRooms() {
        int[] rooms = {0, 1, 3, -1, Integer.MIN_VALUE, Integer.MAX_VALUE};
        edges.refused(ByPromise.NO_SUCH, Scenes::rooms, 0, (x, room) -> x.curtains(room), rooms);
        edges.refused(ByPromise.NO_SUCH, Scenes::rooms, 0, (x, room) -> x.measure(room, 0, 1, 0, 0, 0), rooms);
        edges.refused(ByPromise.NO_SUCH, Scenes::rooms, 0, (x, room) -> x.book(room, 0, 0, false, 1, 1), rooms);
        edges.due("first room", new EchoChamber().addRoom(), 0);
    }

    static void p01_thereAreNoAnswersFiltersAndBookings() {
        int[] numbers = {0, 1, -1};
        edges.refused(ByPromise.NO_SUCH, Scenes::rooms, 0, (x, answer) -> x.sample(answer, 0), numbers);
        edges.refused(ByPromise.NO_SUCH, Scenes::rooms, 0, (x, answer) -> x.makeFilter(answer), numbers);
        edges.refused(ByPromise.NO_SUCH, Scenes::rooms, 0, (x, filter) -> x.use(filter, 0), numbers);
        edges.refused(ByPromise.NO_SUCH, Scenes::rooms, 0, (x, booking) -> x.cancel(booking), numbers);
    }

    static void p01_objectsShareNothing() {
        EchoChamber full = Scenes.rooms(4);
        EchoChamber x = new EchoChamber();
        full.setLimit(3);
        edges.due("first room", x.addRoom(), 0);
        edges.due("seats", x.seats(0), 0);
        edges.due("hour", x.hour(), 0);
        edges.due("limit", x.setLimit(24), 24);
    }

    // Promise 2: addRoom

    @Says({
        "Adds a room.",
        "Returns the number of the room."})
    static void p02_fourRoomsAreAdded() {
        EchoChamber x = new EchoChamber();
        for (int i = 0; i < 4; i++) {
            edges.due("number", x.addRoom(), i);
        }
    }

    @Says({
        "Throws `IllegalStateException` if there are 4 rooms",
        "At most 4 rooms have the numbers 0 to n - 1 in the order in which .."})
    static void p02_aFifthRoomIsRefused() {
        edges.refused(ByPromise.STATE, Scenes::rooms, 4, (x, none) -> x.addRoom(), 4);
    }

    static void p02_aRefusedRoomIsNotThereAndIsRefusedAgain() {
        EchoChamber x = Scenes.rooms(4);
        edges.due("fifth", Check.told(x::addRoom), "throws.IllegalStateException");
        edges.due("fifth again", Check.told(x::addRoom), "throws.IllegalStateException");
        edges.due("room 4", Check.told(() -> x.seats(4)), "throws.IndexOutOfBoundsException");
        edges.due("room 3", x.seats(3), 6);
    }

    @Says({
        "Adds a room.",
        "A state consists of curtains from 0 to 3, seats from 0 to 9, and .."})
    static void p02_aNewRoomHasTheLeastStateWhateverTheOthersHave() {
        EchoChamber x = Scenes.rooms(3);
        x.setState(2, 3, 9, true);
        edges.due("number", x.addRoom(), 3);
        edges.due("curtains", x.curtains(3), 0);
        edges.due("seats", x.seats(3), 0);
        edges.due("doors", x.areOpen(3), false);
        edges.due("changes", x.changes(3), 0);
        edges.due("states measured", x.statesMeasured(3), 0);
    }

    // Promise 3: setState

    @Says("Throws `IndexOutOfBoundsException` if there is no such room")
    static void p03_noSuchRoom() {
        edges.noSuchRoom((x, room) -> x.setState(room, 1, 1, true));
    }

    static void p03_theLastOfFourRooms() {
        EchoChamber x = Scenes.rooms(4);
        edges.due("parts", x.setState(3, 0, 0, false), 3);
        edges.due("room 3", x.seats(3), 0);
        edges.due("room 2", x.seats(2), 7);
    }

    static void p03_curtains0To3AreTaken() {
        for (int curtains = 0; curtains <= 3; curtains++) {
            EchoChamber x = Scenes.rooms(4);
            edges.due("parts", x.setState(3, curtains, 6, true), curtains == 3 ? 0 : 1);
            edges.due("curtains", x.curtains(3), curtains);
        }
    }

    @Says({
        "Throws `IllegalArgumentException` if the curtains are not between ..",
        "A state consists of curtains from 0 to 3, seats from 0 to 9, and .."})
    static void p03_otherCurtainsAreRefused() {
        edges.refused(ByPromise.BAD, Scenes::rooms, 4, (x, curtains) -> x.setState(3, curtains, 6, true),
                ByPromise.outside(0, 3));
    }

    static void p03_seats0To9AreTaken() {
        for (int seats = 0; seats <= 9; seats++) {
            EchoChamber x = Scenes.rooms(4);
            edges.due("parts", x.setState(3, 3, seats, true), seats == 6 ? 0 : 1);
            edges.due("seats", x.seats(3), seats);
        }
    }

    @Says({
        "Throws `IllegalArgumentException` if the curtains are not between ..",
        "A state consists of curtains from 0 to 3, seats from 0 to 9, and .."})
    static void p03_otherSeatsAreRefused() {
        edges.refused(ByPromise.BAD, Scenes::rooms, 4, (x, seats) -> x.setState(3, 3, seats, true),
                ByPromise.outside(0, 9));
    }

    static void p03_curtainsAndSeatsAreNotTakenForEachOther() {
        edges.refused(ByPromise.BAD, Scenes::rooms, 1, (x, seats) -> x.setState(0, seats, 3, true), 9, 6, 5, 4);
    }

    @Says("If several exceptions apply, the one that is listed first is thrown.")
    static void p03_noRoomAheadOfABadState() {
        edges.refused(ByPromise.NO_SUCH, Scenes::rooms, 0, (x, bad) -> x.setState(0, bad, bad, true), -1, 10);
        edges.refused(ByPromise.NO_SUCH, Scenes::rooms, 4, (x, bad) -> x.setState(4, bad, 0, true), -1, 4);
        edges.refused(ByPromise.NO_SUCH, Scenes::rooms, 4, (x, bad) -> x.setState(-1, 0, bad, true), -1, 10);
    }

    // Promises 4 to 7: curtains, seats, areOpen, changes

    @Says("Throws `IndexOutOfBoundsException` if there is no such room")
    static void p04_noSuchRoom() {
        edges.noSuchRoom((x, room) -> x.curtains(room));
    }

    @Says({
        "Returns the curtains of a room.",
        "Returns the curtains."})
    static void p04_eachOfFourRooms() {
        EchoChamber x = Scenes.rooms(4);
        for (int room = 0; room < 4; room++) {
            edges.due("curtains", x.curtains(room), room);
        }
    }

    @Says("Throws `IndexOutOfBoundsException` if there is no such room")
    static void p05_noSuchRoom() {
        edges.noSuchRoom((x, room) -> x.seats(room));
    }

    @Says({
        "Returns the seats of a room.",
        "Returns the seats."})
    static void p05_eachOfFourRooms() {
        EchoChamber x = Scenes.rooms(4);
        for (int room = 0; room < 4; room++) {
            edges.due("seats", x.seats(room), 9 - room);
        }
    }

    @Says("Throws `IndexOutOfBoundsException` if there is no such room")
    static void p06_noSuchRoom() {
        edges.noSuchRoom((x, room) -> x.areOpen(room));
    }

    @Says({
        "Tells whether the doors of a room are open.",
        "Returns true if so."})
    static void p06_eachOfFourRooms() {
        EchoChamber x = Scenes.rooms(4);
        for (int room = 0; room < 4; room++) {
            edges.due("doors", x.areOpen(room), room % 2 == 1);
        }
    }

    @Says("Throws `IndexOutOfBoundsException` if there is no such room")
    static void p07_noSuchRoom() {
        edges.noSuchRoom((x, room) -> x.changes(room));
    }

    @Says({
        "Returns how many changes a room has counted.",
        "Returns the number of changes."})
    static void p07_eachOfFourRooms() {
        EchoChamber x = Scenes.rooms(4);
        int[] changes = {1, 3, 2, 3};
        for (int room = 0; room < 4; room++) {
            edges.due("changes", x.changes(room), changes[room]);
        }
    }

    static void p07_theSameStateIsNoChange() {
        EchoChamber x = Scenes.rooms(1);
        edges.due("parts", x.setState(0, 0, 9, false), 0);
        edges.due("changes", x.changes(0), 1);
    }

    static void p07_aBookingOfTheSameStateIsNoChange() {
        EchoChamber x = Scenes.rooms(1);
        x.setState(0, 1, 2, true);
        edges.due("begins", x.pass(2), 1);
        edges.due("changes", x.changes(0), 4);
    }
}
