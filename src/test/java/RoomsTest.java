/** Promises 1 to 7. */
public final class RoomsTest {
    private static final Class<IndexOutOfBoundsException> NO_SUCH = IndexOutOfBoundsException.class;
    private static final Class<IllegalArgumentException> BAD = IllegalArgumentException.class;

    private static final Check check = new Check("RoomsTest");

    public static void main(String[] args) {
        newObject();
        addRoom();
        setState();
        limitsOfSetState();
        roomsThatAreNotThere();
        changes();
        check.end();
    }

    private static EchoChamber withRooms(int rooms) {
        EchoChamber x = new EchoChamber();
        for (int i = 0; i < rooms; i++) {
            x.addRoom();
        }
        return x;
    }

    private static EchoChamber inUse() {
        EchoChamber x = withRooms(3);
        x.setState(1, 2, 7, true);
        x.measure(1, 0, 1, 2, 3, 4);
        x.makeFilter(0);
        x.book(1, 3, 3, false, 5, 6);
        x.pass(2);
        return x;
    }

    private static void newObject() {
        EchoChamber x = new EchoChamber();
        check.due("1 hour", x.hour(), 0);
        check.due("1 answers", x.answers(), 0);
        check.due("1 usable", x.usable(), 0);
        check.due("1 limit", x.setLimit(5), 24);
        check.refused("1 no room", NO_SUCH, EchoChamber::new, e -> e.curtains(0));
        check.refused("1 no answer", NO_SUCH, EchoChamber::new, e -> e.age(0));
        check.refused("1 no filter", NO_SUCH, EchoChamber::new, e -> e.bar(0));
        check.refused("1 no booking", NO_SUCH, EchoChamber::new, e -> e.cancel(0));
        EchoChamber other = new EchoChamber();
        x.addRoom();
        check.due("1 objects share nothing", other.addRoom(), 0);
    }

    private static void addRoom() {
        EchoChamber x = new EchoChamber();
        for (int i = 0; i < 4; i++) {
            check.due("2 number", x.addRoom(), i);
            check.due("4 curtains at first", x.curtains(i), 0);
            check.due("5 seats at first", x.seats(i), 0);
            check.due("6 doors at first", x.areOpen(i), false);
            check.due("7 changes at first", x.changes(i), 0);
        }
        check.refused("2 a fifth room", IllegalStateException.class, () -> withRooms(4), EchoChamber::addRoom);
    }

    private static void setState() {
        EchoChamber x = withRooms(2);
        check.due("3 all parts", x.setState(1, 3, 9, true), 3);
        check.due("4 curtains", x.curtains(1), 3);
        check.due("5 seats", x.seats(1), 9);
        check.due("6 doors", x.areOpen(1), true);
        check.due("4 curtains of the other room", x.curtains(0), 0);
        check.due("5 seats of the other room", x.seats(0), 0);
        check.due("6 doors of the other room", x.areOpen(0), false);
        check.due("3 the same", x.setState(1, 3, 9, true), 0);
        check.due("3 curtains alone", x.setState(1, 0, 9, true), 1);
        check.due("3 seats alone", x.setState(1, 0, 0, true), 1);
        check.due("3 doors alone", x.setState(1, 0, 0, false), 1);
        check.due("6 shut again", x.areOpen(1), false);
        check.due("3 curtains and seats", x.setState(1, 1, 1, false), 2);
        check.due("3 curtains and doors", x.setState(1, 2, 1, true), 2);
        check.due("3 seats and doors", x.setState(1, 2, 2, false), 2);
        check.due("4 curtains at last", x.curtains(1), 2);
        check.due("5 seats at last", x.seats(1), 2);
    }

    private static void limitsOfSetState() {
        check.refused("3 curtains -1", BAD, RoomsTest::inUse, x -> x.setState(1, -1, 0, false));
        check.refused("3 curtains 4", BAD, RoomsTest::inUse, x -> x.setState(1, 4, 0, false));
        check.refused("3 seats -1", BAD, RoomsTest::inUse, x -> x.setState(1, 0, -1, false));
        check.refused("3 seats 10", BAD, RoomsTest::inUse, x -> x.setState(1, 0, 10, false));
        check.refused("3 far out", BAD, RoomsTest::inUse,
                x -> x.setState(1, Integer.MIN_VALUE, Integer.MAX_VALUE, true));
        check.refused("3 the room is looked at first", NO_SUCH, RoomsTest::inUse, x -> x.setState(3, 4, 10, false));
    }

    private static void roomsThatAreNotThere() {
        for (int room : new int[] {3, -1, Integer.MAX_VALUE, Integer.MIN_VALUE}) {
            check.refused("3 room " + room, NO_SUCH, RoomsTest::inUse, x -> x.setState(room, 1, 1, true));
            check.refused("4 room " + room, NO_SUCH, RoomsTest::inUse, x -> x.curtains(room));
            check.refused("5 room " + room, NO_SUCH, RoomsTest::inUse, x -> x.seats(room));
            check.refused("6 room " + room, NO_SUCH, RoomsTest::inUse, x -> x.areOpen(room));
            check.refused("7 room " + room, NO_SUCH, RoomsTest::inUse, x -> x.changes(room));
        }
    }

    private static void changes() {
        EchoChamber x = withRooms(2);
        x.setState(0, 3, 9, true);
        check.due("7 three parts", x.changes(0), 3);
        x.setState(0, 3, 9, true);
        check.due("7 no part", x.changes(0), 3);
        x.setState(0, 3, 8, true);
        check.due("7 one part", x.changes(0), 4);
        x.setState(0, 0, 0, true);
        check.due("7 two parts", x.changes(0), 6);
        check.due("7 the other room", x.changes(1), 0);
        x.book(0, 1, 1, false, 1, 1);
        x.pass(1);
        check.due("7 a booking's changes count", x.changes(0), 9);
    }
}
