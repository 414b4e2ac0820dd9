import java.util.NoSuchElementException;

/** Promises 25 to 30. */
public final class BookingsTest {
    private static final Class<IndexOutOfBoundsException> NO_SUCH = IndexOutOfBoundsException.class;
    private static final Class<IllegalArgumentException> BAD = IllegalArgumentException.class;
    private static final Class<UnsupportedOperationException> CLASHES = UnsupportedOperationException.class;
    private static final Class<IllegalStateException> FULL = IllegalStateException.class;
    private static final Class<NoSuchElementException> NONE = NoSuchElementException.class;
    private static final int[] FAR = {Integer.MAX_VALUE, Integer.MIN_VALUE};

    private static final Check check = new Check("BookingsTest");

    public static void main(String[] args) {
        book();
        hoursBetween();
        limitsOfBook();
        fullOfBookings();
        clash();
        limitsOfClash();
        cancel();
        pass();
        limitsOfPass();
        nextBooking();
        check.end();
    }

    /** At the hour 4: booking 0 of room 0 for 10 to 12, 1 of room 1 for 3 to 9, and 2 of room 0, cancelled. */
    private static EchoChamber inUse() {
        EchoChamber x = new EchoChamber();
        x.addRoom();
        x.addRoom();
        x.book(0, 1, 1, false, 10, 12);
        x.book(1, 2, 2, true, 3, 9);
        x.book(0, 0, 0, true, 30, 40);
        x.cancel(2);
        x.measure(0, 0, 1, 2, 3, 4);
        x.makeFilter(0);
        x.pass(4);
        return x;
    }

    private static EchoChamber full() {
        EchoChamber x = new EchoChamber();
        x.addRoom();
        for (int i = 1; i <= 16; i++) {
            x.book(0, 0, 0, false, i, i);
        }
        return x;
    }

    private static EchoChamber late() {
        EchoChamber x = new EchoChamber();
        x.addRoom();
        for (int i = 0; i < 208; i++) {
            x.pass(48);
        }
        x.pass(10);
        return x;
    }

    private static void book() {
        EchoChamber x = inUse();
        check.due("25 number", x.book(0, 0, 0, false, 5, 5), 3);
        check.due("25 the last hour of all", x.book(0, 3, 9, true, 9999, 9999), 4);
        check.due("25 a cancelled one is no clash", x.book(0, 3, 9, true, 30, 40), 5);
        check.due("25 another room is no clash", x.book(1, 1, 1, false, 13, 13), 6);
        check.due("25 the room keeps its state as yet", x.changes(0), 0);
        check.due("29 the hour stays", x.hour(), 4);
    }

    /** Booking 0 of room 0 is for curtains 1, seats 1, shut doors, from 10 to 12. */
    private static void hoursBetween() {
        int[][] parts = {{1, 1, 0}, {2, 1, 0}, {2, 2, 0}, {2, 2, 1}};
        for (int d = 0; d <= 3; d++) {
            int curtains = parts[d][0];
            int seats = parts[d][1];
            boolean areOpen = parts[d][2] == 1;
            int near = 12 + d;
            int ahead = 10 - d;
            check.refused("25 parts " + d + " too near behind", CLASHES, BookingsTest::inUse,
                    x -> x.book(0, curtains, seats, areOpen, near, near + 5));
            check.refused("25 parts " + d + " too near ahead", CLASHES, BookingsTest::inUse,
                    x -> x.book(0, curtains, seats, areOpen, 5, ahead));
            EchoChamber x = inUse();
            check.due("26 too near behind", x.clash(0, curtains, seats, areOpen, near, near + 5), 0);
            check.due("26 too near ahead", x.clash(0, curtains, seats, areOpen, 5, ahead), 0);
            check.due("25 near enough behind", x.book(0, curtains, seats, areOpen, near + 1, near + 5), 3);
            check.due("25 near enough ahead", x.book(0, curtains, seats, areOpen, 5, ahead - 1), 4);
        }
        EchoChamber x = inUse();
        check.due("26 within", x.clash(0, 1, 1, false, 11, 11), 0);
        check.due("26 around", x.clash(0, 1, 1, false, 5, 20), 0);
        check.due("26 the same hours", x.clash(0, 1, 1, false, 10, 12), 0);
    }

    private static void limitsOfBook() {
        for (int room : new int[] {-1, 2, FAR[0], FAR[1]}) {
            check.refused("25 room " + room, NO_SUCH, BookingsTest::inUse, x -> x.book(room, 0, 0, false, 20, 21));
        }
        for (int curtains : new int[] {-1, 4, FAR[0], FAR[1]}) {
            check.refused("25 curtains " + curtains, BAD, BookingsTest::inUse,
                    x -> x.book(0, curtains, 0, false, 20, 21));
        }
        for (int seats : new int[] {-1, 10, FAR[0], FAR[1]}) {
            check.refused("25 seats " + seats, BAD, BookingsTest::inUse, x -> x.book(0, 0, seats, false, 20, 21));
        }
        for (int first : new int[] {4, 3, 0, -1, FAR[1]}) {
            check.refused("25 first hour " + first, BAD, BookingsTest::inUse,
                    x -> x.book(0, 0, 0, false, first, 5));
        }
        for (int last : new int[] {19, 10000, 0, -1, FAR[0], FAR[1]}) {
            check.refused("25 last hour " + last, BAD, BookingsTest::inUse,
                    x -> x.book(0, 0, 0, false, 20, last));
        }
        check.refused("25 both after the last hour", BAD, BookingsTest::inUse,
                x -> x.book(0, 0, 0, false, 10000, 10000));
        check.refused("25 the room is looked at first", NO_SUCH, BookingsTest::inUse,
                x -> x.book(2, 4, 10, false, 12, 10));
        check.refused("25 bad hours ahead of a clash", BAD, BookingsTest::inUse,
                x -> x.book(0, 0, 0, false, 4, 12));
        check.refused("25 bad seats ahead of a clash", BAD, BookingsTest::inUse,
                x -> x.book(0, 0, 10, false, 10, 12));
    }

    private static void fullOfBookings() {
        check.due("27 the sixteenth", full().cancel(15), 15);
        check.refused("25 one more", FULL, BookingsTest::full, x -> x.book(0, 0, 0, false, 17, 17));
        check.refused("25 one more, of no room", NO_SUCH, BookingsTest::full,
                x -> x.book(1, 0, 0, false, 17, 17));
        check.refused("25 one more, bad", BAD, BookingsTest::full, x -> x.book(0, 0, 0, false, 17, 16));
        check.refused("25 one more, a clash", CLASHES, BookingsTest::full,
                x -> x.book(0, 0, 0, false, 16, 17));
        check.refused("25 cancelled ones count", FULL, () -> {
            EchoChamber x = full();
            x.cancel(3);
            return x;
        }, x -> x.book(0, 0, 0, false, 4, 4));
    }

    private static void clash() {
        EchoChamber x = inUse();
        x.book(0, 1, 1, false, 13, 14);
        x.book(0, 1, 1, false, 5, 6);
        check.due("26 the lowest number", x.clash(0, 0, 0, true, 0, 9999), 0);
        check.due("26 not the earliest one", x.clash(0, 0, 0, true, 6, 14), 0);
        check.due("26 the one alone", x.clash(0, 1, 1, false, 6, 7), 4);
        check.due("26 another room's", x.clash(1, 0, 0, false, 9, 9), 1);
        check.due("26 hours that have passed", x.clash(1, 2, 2, true, -5, 3), 1);
        check.due("26 hours after the last one", x.clash(0, 1, 1, false, 14, FAR[0]), 3);
        check.due("26 all hours", x.clash(0, 1, 1, false, FAR[1], FAR[0]), 0);
        x.pass(40);
        check.due("26 a booking that has ended", x.clash(1, 2, 2, true, 9, 9), 1);
        check.due("26 and that of room 0", x.clash(0, 0, 0, false, 15, 15), 3);
    }

    private static void limitsOfClash() {
        check.refused("26 a cancelled one", NONE, BookingsTest::inUse, x -> x.clash(0, 0, 0, true, 30, 40));
        check.refused("26 another room's", NONE, BookingsTest::inUse, x -> x.clash(0, 2, 2, true, 3, 6));
        check.refused("26 between two", NONE, BookingsTest::inUse, x -> x.clash(0, 1, 1, false, 13, 9999));
        check.refused("26 far ahead", NONE, BookingsTest::inUse, x -> x.clash(0, 0, 0, true, FAR[1], FAR[1]));
        check.refused("26 far ahead, but long", NONE, BookingsTest::inUse, x -> x.clash(0, 0, 0, true, FAR[1], 6));
        check.refused("26 far behind", NONE, BookingsTest::inUse, x -> x.clash(0, 0, 0, true, FAR[0], FAR[0]));
        for (int room : new int[] {-1, 2, FAR[0], FAR[1]}) {
            check.refused("26 room " + room, NO_SUCH, BookingsTest::inUse,
                    x -> x.clash(room, 0, 0, false, 10, 12));
            check.refused("30 room " + room, NO_SUCH, BookingsTest::inUse, x -> x.nextBooking(room));
        }
        for (int curtains : new int[] {-1, 4, FAR[0], FAR[1]}) {
            check.refused("26 curtains " + curtains, BAD, BookingsTest::inUse,
                    x -> x.clash(0, curtains, 0, false, 10, 12));
        }
        for (int seats : new int[] {-1, 10, FAR[0], FAR[1]}) {
            check.refused("26 seats " + seats, BAD, BookingsTest::inUse,
                    x -> x.clash(0, 0, seats, false, 10, 12));
        }
        check.refused("26 last ahead of first", BAD, BookingsTest::inUse, x -> x.clash(0, 0, 0, false, 12, 11));
        check.refused("26 far ahead of first", BAD, BookingsTest::inUse,
                x -> x.clash(0, 0, 0, false, FAR[0], FAR[1]));
        check.refused("26 the room is looked at first", NO_SUCH, BookingsTest::inUse,
                x -> x.clash(2, 4, 10, false, 12, 11));
        check.refused("26 bad hours ahead of none", BAD, BookingsTest::inUse,
                x -> x.clash(0, 0, 0, false, 500, 400));
    }

    private static void cancel() {
        EchoChamber x = inUse();
        x.book(0, 0, 0, true, 30, 40);
        x.book(0, 1, 1, false, 5, 6);
        check.due("27 all rooms' count, begun ones too", x.cancel(3), 3);
        check.due("27 one that begins next", x.cancel(4), 2);
        check.due("27 at last", x.cancel(0), 1);
        check.due("28 none of them begins", x.pass(48), 0);
        check.due("7 no room changes", x.changes(0), 0);
        for (int booking : new int[] {-1, 3, FAR[0], FAR[1]}) {
            check.refused("27 booking " + booking, NO_SUCH, BookingsTest::inUse, e -> e.cancel(booking));
        }
        check.refused("27 cancelled", FULL, BookingsTest::inUse, e -> e.cancel(2));
        check.refused("27 begun", FULL, BookingsTest::inUse, e -> e.cancel(1));
        check.refused("27 begun in this hour", FULL, () -> {
            EchoChamber e = inUse();
            e.pass(6);
            return e;
        }, e -> e.cancel(0));
    }

    private static void pass() {
        EchoChamber x = inUse();
        check.due("28 one began earlier", x.curtains(1), 2);
        check.due("28 seats of it", x.seats(1), 2);
        check.due("28 doors of it", x.areOpen(1), true);
        check.due("28 none", x.pass(5), 0);
        check.due("29 hour", x.hour(), 9);
        check.due("28 not yet", x.curtains(0), 0);
        check.due("28 it begins", x.pass(1), 1);
        check.due("28 now", x.curtains(0), 1);
        x.setState(0, 0, 0, false);
        check.due("28 a begun one begins no more", x.pass(2), 0);
        check.due("28 so the room keeps its state", x.curtains(0), 0);
        x.book(0, 0, 0, false, 15, 15);
        x.book(0, 3, 3, true, 20, 20);
        x.book(1, 1, 1, false, 60, 61);
        x.book(0, 0, 5, false, 60, 60);
        x.book(0, 0, 6, false, 62, 70);
        int changes = x.changes(0);
        check.due("28 the highest number of hours", x.pass(48), 4);
        check.due("29 hour then", x.hour(), 60);
        check.due("28 the last state in them", x.seats(0), 5);
        check.due("28 of each room", x.seats(1), 1);
        check.due("7 each booking's changes, in order", x.changes(0), changes + 6);
        check.due("28 the next one", x.pass(2), 1);
        check.due("28 gives its state", x.seats(0), 6);
    }

    private static void limitsOfPass() {
        for (int hours : new int[] {0, -1, 49, FAR[0], FAR[1]}) {
            check.refused("28 hours " + hours, BAD, BookingsTest::inUse, x -> x.pass(hours));
        }
        EchoChamber x = late();
        check.due("29 late", x.hour(), 9994);
        check.due("25 late", x.book(0, 1, 1, true, 9999, 9999), 0);
        check.refused("28 beyond the last hour", BAD, BookingsTest::late, e -> e.pass(6));
        check.due("28 to the last hour", x.pass(5), 1);
        check.due("29 the last hour", x.hour(), 9999);
        check.due("28 beyond it", Check.told(() -> x.pass(1)), "throws.IllegalArgumentException");
        check.due("29 the last hour still", x.hour(), 9999);
        check.due("25 no hour is left", Check.told(() -> x.book(0, 1, 1, true, 9999, 9999)),
                "throws.IllegalArgumentException");
    }

    private static void nextBooking() {
        EchoChamber x = inUse();
        check.due("30 the one to come", x.nextBooking(0), 0);
        x.book(0, 1, 1, false, 13, 14);
        x.book(0, 1, 1, false, 6, 7);
        x.book(1, 1, 1, false, 20, 20);
        check.due("30 the earliest, not the lowest", x.nextBooking(0), 4);
        check.due("30 another room", x.nextBooking(1), 5);
        x.cancel(4);
        check.due("30 not a cancelled one", x.nextBooking(0), 0);
        x.pass(5);
        check.due("30 in the hour ahead of it", x.nextBooking(0), 0);
        x.pass(1);
        check.due("30 not the one that has just begun", x.nextBooking(0), 3);
        check.refused("30 none to come", NONE, BookingsTest::inUse, e -> e.nextBooking(1));
    }
}
