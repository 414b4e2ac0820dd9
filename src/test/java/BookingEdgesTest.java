/** The edges of promises 25 to 31. */
public final class BookingEdgesTest {
    private static final ByPromise edges = new ByPromise(new Check("BookingEdgesTest"));
    private static final int LEAST = Integer.MIN_VALUE;
    private static final int GREATEST = Integer.MAX_VALUE;

    public static void main(String[] args) {
        edges.runAll(BookingEdgesTest.class, 25, 31);
    }

    /** At the hour 20, between the bookings 1 and 2; booking 3 is cancelled. */
    private static EchoChamber inTheMidst(int bookings) {
        EchoChamber x = Scenes.bookings(bookings);
        x.cancel(3);
        x.pass(20);
        return x;
    }

    /** Books room 0 for a state that differs in as many parts from the one of booking 0, which is 1, 2, open. */
    private static int book(EchoChamber x, int parts, int first, int last) {
        return x.book(0, parts > 0 ? 0 : 1, parts > 1 ? 9 : 2, parts < 3, first, last);
    }

    private static int clash(EchoChamber x, int parts, int first, int last) {
        return x.clash(0, parts > 0 ? 0 : 1, parts > 1 ? 9 : 2, parts < 3, first, last);
    }

    private static void dueThrow(String what, Check.Call call, Class<? extends RuntimeException> want) {
        edges.due(what, Check.told(call), "throws." + want.getSimpleName());
    }

    // Promise 25: book

    @Says("Throws `IndexOutOfBoundsException` if there is no such room")
    static void p25_noSuchRoom() {
        edges.noSuchRoom((x, room) -> x.book(room, 0, 0, false, 20, 21));
    }

    static void p25_theLastOfFourRooms() {
        EchoChamber x = Scenes.rooms(4);
        edges.due("number", x.book(3, 0, 0, false, 4, 6), 1);
        edges.due("next of room 3", x.nextBooking(3), 1);
        edges.due("next of room 0", x.nextBooking(0), 0);
    }

    static void p25_curtains0To3AreTaken() {
        for (int curtains = 0; curtains <= 3; curtains++) {
            EchoChamber x = Scenes.bookings(0);
            edges.due("number", x.book(0, curtains, 0, false, 1, 1), 0);
            x.pass(1);
            edges.due("curtains", x.curtains(0), curtains);
        }
    }

    @Says("Throws `IllegalArgumentException` if the curtains are not between ..")
    static void p25_otherCurtainsAreRefused() {
        edges.refused(ByPromise.BAD, Scenes::bookings, 3, (x, curtains) -> x.book(0, curtains, 0, false, 1, 1),
                ByPromise.outside(0, 3));
    }

    static void p25_seats0To9AreTaken() {
        for (int seats = 0; seats <= 9; seats++) {
            EchoChamber x = Scenes.bookings(0);
            edges.due("number", x.book(0, 0, seats, false, 1, 1), 0);
            x.pass(1);
            edges.due("seats", x.seats(0), seats);
        }
    }

    @Says("Throws `IllegalArgumentException` if the curtains are not between ..")
    static void p25_otherSeatsAreRefused() {
        edges.refused(ByPromise.BAD, Scenes::bookings, 3, (x, seats) -> x.book(0, 0, seats, false, 1, 1),
                ByPromise.outside(0, 9));
    }

    static void p25_theFirstHourIsTheNextOne() {
        EchoChamber x = inTheMidst(4);
        edges.due("number", book(x, 0, 21, 24), 4);
        edges.due("begins", x.pass(1), 1);
    }

    @Says("Throws `IllegalArgumentException` if the curtains are not between ..")
    static void p25_aFirstHourThatIsNotLaterIsRefused() {
        edges.refused(ByPromise.BAD, BookingEdgesTest::inTheMidst, 4, (x, first) -> book(x, 0, first, 22),
                20, 19, 18, 0, -1, LEAST);
        edges.refused(ByPromise.BAD, Scenes::bookings, 1, (x, first) -> book(x, 0, first, 1), 0, -1, LEAST);
    }

    static void p25_oneHourIsLongEnough() {
        edges.due("number", book(Scenes.bookings(1), 0, 3, 3), 1);
    }

    @Says("Throws `IllegalArgumentException` if the curtains are not between ..")
    static void p25_aLastHourLessThanTheFirstIsRefused() {
        edges.refused(ByPromise.BAD, Scenes::bookings, 1, (x, last) -> book(x, 0, 30, last), 29, 28, 0, -1, LEAST);
        edges.refused(ByPromise.BAD, Scenes::bookings, 1, (x, first) -> book(x, 0, first, 9999), 10000, GREATEST);
    }

    static void p25_theLastHourIs9999() {
        edges.due("from the start", book(Scenes.bookings(0), 0, 1, 9999), 0);
        edges.due("that one alone", book(Scenes.bookings(1), 3, 9999, 9999), 1);
        edges.due("in the hour ahead of it", book(Scenes.atHour(9998), 3, 9999, 9999), 1);
    }

    @Says("Throws `IllegalArgumentException` if the curtains are not between ..")
    static void p25_aLaterLastHourIsRefused() {
        edges.refused(ByPromise.BAD, Scenes::bookings, 1, (x, last) -> book(x, 0, 30, last), 10000, GREATEST);
        edges.refused(ByPromise.BAD, Scenes::bookings, 1, (x, both) -> book(x, 0, both, both), 10000, GREATEST);
    }

    static void p25_inTheLastHourNoneIsLeft() {
        edges.refused(ByPromise.BAD, Scenes::atHour, 9999, (x, both) -> book(x, 0, both, both), 9999, 10000, 1, 0);
    }

    static void p25_asManyHoursBehindAsPartsDiffer() {
        for (int parts = 0; parts <= 3; parts++) {
            edges.due("parts " + parts, book(Scenes.bookings(1), parts, 8 + parts, 50), 1);
        }
    }

    @Says("Throws `UnsupportedOperationException` if it clashes with a booking")
    static void p25_fewerHoursBehindClash() {
        for (int parts = 0; parts <= 3; parts++) {
            int differ = parts;
            edges.refused(ByPromise.BARRED, Scenes::bookings, 1, (x, first) -> book(x, differ, first, 50),
                    7 + parts, 7);
        }
    }

    static void p25_asManyHoursAheadAsPartsDiffer() {
        for (int parts = 0; parts <= 3; parts++) {
            edges.due("parts " + parts, book(Scenes.bookings(1), parts, 1, 4 - parts), 1);
        }
    }

    @Says("Throws `UnsupportedOperationException` if it clashes with a booking")
    static void p25_fewerHoursAheadClash() {
        for (int parts = 0; parts <= 3; parts++) {
            int differ = parts;
            edges.refused(ByPromise.BARRED, Scenes::bookings, 1, (x, last) -> book(x, differ, 1, last), 5 - parts, 5);
        }
    }

    static void p25_betweenTwoBookingsThereIsJustRoom() {
        edges.due("no part differs", book(Scenes.bookings(2), 0, 8, 14), 2);
        edges.due("three parts differ", book(Scenes.bookings(2), 3, 11, 11), 2);
        edges.refused(ByPromise.BARRED, Scenes::bookings, 2, (x, first) -> book(x, 3, first, 11), 10, 1);
        edges.refused(ByPromise.BARRED, Scenes::bookings, 2, (x, last) -> book(x, 3, 11, last), 12, 9999);
    }

    @Says("Throws `UnsupportedOperationException` if it clashes with a booking")
    static void p25_withinAroundAndTheSameHoursClash() {
        edges.refused(ByPromise.BARRED, Scenes::bookings, 1, (x, parts) -> book(x, parts, 6, 6), 0, 3);
        edges.refused(ByPromise.BARRED, Scenes::bookings, 1, (x, parts) -> book(x, parts, 1, 9999), 0, 3);
        edges.refused(ByPromise.BARRED, Scenes::bookings, 1, (x, parts) -> book(x, parts, 5, 7), 0, 3);
    }

    static void p25_cancelledOnesAndOtherRoomsDoNotClash() {
        EchoChamber x = Scenes.bookings(1);
        x.addRoom();
        edges.due("another room", x.book(1, 0, 9, false, 5, 7), 1);
        x.cancel(0);
        edges.due("a cancelled one", book(x, 3, 5, 7), 2);
    }

    @Says("At most 16 bookings have the numbers 0 to n - 1 in the order in ..")
    static void p25_sixteenBookingsAreMade() {
        EchoChamber x = Scenes.bookings(15);
        edges.due("the sixteenth", book(x, 0, 1, 1), 15);
        edges.due("the next", x.nextBooking(0), 15);
    }

    @Says({
        "Throws `IllegalStateException` if there are 16 bookings",
        "At most 16 bookings have the numbers 0 to n - 1 in the order in .."})
    static void p25_oneMoreThanSixteenIsRefused() {
        edges.refused(ByPromise.STATE, Scenes::bookings, 16, (x, first) -> book(x, 0, first, first), 1, 9999);
    }

    static void p25_oneMoreThanSixteenIsRefusedOfAnotherRoomToo() {
        edges.refused(ByPromise.STATE, n -> {
            EchoChamber x = Scenes.bookings(n);
            x.addRoom();
            return x;
        }, 16, (x, room) -> x.book(room, 0, 0, false, 5, 5), 1);
    }

    static void p25_cancelledAndEndedOnesAreOfTheSixteen() {
        edges.refused(ByPromise.STATE, BookingEdgesTest::inTheMidst, 16, (x, first) -> book(x, 0, first, first),
                35, 9999);
    }

    @Says("If several exceptions apply, the one that is listed first is thrown.")
    static void p25_noRoomAheadOfABadBooking() {
        edges.refused(ByPromise.NO_SUCH, Scenes::bookings, 1, (x, bad) -> x.book(1, bad, 0, false, 1, 1), -1, 4);
        edges.refused(ByPromise.NO_SUCH, Scenes::bookings, 1, (x, bad) -> x.book(1, 0, bad, false, 1, 1), -1, 10);
        edges.refused(ByPromise.NO_SUCH, Scenes::bookings, 1, (x, bad) -> x.book(-1, 0, 0, false, bad, 9), 0, 10);
        edges.refused(ByPromise.NO_SUCH, Scenes::bookings, 1, (x, bad) -> x.book(-1, 0, 0, false, 9, bad), 8, 10000);
    }

    @Says("If several exceptions apply, the one that is listed first is thrown.")
    static void p25_noRoomAheadOfSixteenBookings() {
        edges.refused(ByPromise.NO_SUCH, Scenes::bookings, 16, (x, room) -> x.book(room, 0, 0, false, 1, 1), -1, 1);
    }

    @Says("If several exceptions apply, the one that is listed first is thrown.")
    static void p25_aBadBookingAheadOfAClash() {
        edges.refused(ByPromise.BAD, Scenes::bookings, 1, (x, bad) -> x.book(0, bad, 0, false, 5, 7), -1, 4);
        edges.refused(ByPromise.BAD, Scenes::bookings, 1, (x, bad) -> x.book(0, 0, bad, false, 5, 7), -1, 10);
        edges.refused(ByPromise.BAD, Scenes::bookings, 1, (x, first) -> book(x, 0, first, 7), 0, -1, LEAST);
        edges.refused(ByPromise.BAD, Scenes::bookings, 1, (x, last) -> book(x, 0, 7, last), 6, 5, 10000, GREATEST);
    }

    @Says("If several exceptions apply, the one that is listed first is thrown.")
    static void p25_aBadBookingAheadOfSixteenBookings() {
        edges.refused(ByPromise.BAD, Scenes::bookings, 16, (x, bad) -> x.book(0, bad, 0, false, 1, 1), -1, 4);
        edges.refused(ByPromise.BAD, Scenes::bookings, 16, (x, bad) -> x.book(0, 0, bad, false, 1, 1), -1, 10);
        edges.refused(ByPromise.BAD, Scenes::bookings, 16, (x, first) -> book(x, 0, first, 1), 0, 2);
        edges.refused(ByPromise.BAD, Scenes::bookings, 16, (x, last) -> book(x, 0, 9000, last), 8999, 10000);
    }

    @Says("If several exceptions apply, the one that is listed first is thrown.")
    static void p25_aClashAheadOfSixteenBookings() {
        edges.refused(ByPromise.BARRED, Scenes::bookings, 16, (x, hour) -> book(x, 0, hour, hour), 5, 7, 155, 157);
    }

    // Promise 26: clash

    @Says("Throws `IndexOutOfBoundsException` if there is no such room")
    static void p26_noSuchRoom() {
        edges.noSuchRoom((x, room) -> x.clash(room, 0, 0, false, 4, 6));
    }

    static void p26_theLastOfFourRooms() {
        EchoChamber x = Scenes.rooms(4);
        x.book(3, 0, 0, false, 4, 6);
        edges.due("room 3", x.clash(3, 0, 0, false, 6, 6), 1);
        edges.due("room 0", x.clash(0, 0, 0, false, 6, 6), 0);
        dueThrow("room 2", () -> x.clash(2, 0, 0, false, 6, 6), ByPromise.NONE);
    }

    static void p26_theLeastAndTheGreatestStateClash() {
        EchoChamber x = Scenes.bookings(1);
        edges.due("the least", x.clash(0, 0, 0, false, 5, 5), 0);
        edges.due("the greatest", x.clash(0, 3, 9, true, 5, 5), 0);
    }

    @Says("Throws `IllegalArgumentException` if the curtains are not between ..")
    static void p26_otherCurtainsAreRefused() {
        edges.refused(ByPromise.BAD, Scenes::bookings, 3, (x, curtains) -> x.clash(0, curtains, 0, false, 5, 7),
                ByPromise.outside(0, 3));
    }

    @Says("Throws `IllegalArgumentException` if the curtains are not between ..")
    static void p26_otherSeatsAreRefused() {
        edges.refused(ByPromise.BAD, Scenes::bookings, 3, (x, seats) -> x.clash(0, 0, seats, false, 5, 7),
                ByPromise.outside(0, 9));
    }

    static void p26_aLastHourThatIsTheFirstIsTaken() {
        edges.due("clash", clash(Scenes.bookings(1), 0, 5, 5), 0);
    }

    @Says("Throws `IllegalArgumentException` if the curtains are not between ..")
    static void p26_aLastHourLessThanTheFirstIsRefused() {
        edges.refused(ByPromise.BAD, Scenes::bookings, 1, (x, last) -> clash(x, 0, 6, last), 5, 0, -1, LEAST);
        edges.refused(ByPromise.BAD, Scenes::bookings, 1, (x, first) -> clash(x, 0, first, 6), 7, GREATEST);
        edges.refused(ByPromise.BAD, Scenes::bookings, 1, (x, first) -> clash(x, 0, first, first - 1), 0, GREATEST);
    }

    static void p26_theHoursBehindForEachNumberOfParts() {
        for (int parts = 0; parts <= 3; parts++) {
            EchoChamber x = Scenes.bookings(1);
            int differ = parts;
            edges.due("too near", clash(x, parts, 7 + parts, 50), 0);
            dueThrow("far enough", () -> clash(x, differ, 8 + differ, 50), ByPromise.NONE);
        }
    }

    static void p26_theHoursAheadForEachNumberOfParts() {
        for (int parts = 0; parts <= 3; parts++) {
            EchoChamber x = Scenes.bookings(1);
            int differ = parts;
            edges.due("too near", clash(x, parts, 1, 5 - parts), 0);
            dueThrow("far enough", () -> clash(x, differ, 1, 4 - differ), ByPromise.NONE);
        }
    }

    static void p26_theLeastAndTheGreatestHours() {
        for (int parts = 0; parts <= 3; parts++) {
            EchoChamber x = Scenes.bookings(1);
            int differ = parts;
            edges.due("all hours", clash(x, parts, LEAST, GREATEST), 0);
            edges.due("from the least", clash(x, parts, LEAST, 5 - parts), 0);
            edges.due("to the greatest", clash(x, parts, 7 + parts, GREATEST), 0);
            dueThrow("not near enough to it", () -> clash(x, differ, LEAST, 4 - differ), ByPromise.NONE);
            dueThrow("not near enough behind", () -> clash(x, differ, 8 + differ, GREATEST), ByPromise.NONE);
            dueThrow("the least", () -> clash(x, differ, LEAST, LEAST), ByPromise.NONE);
            dueThrow("the greatest", () -> clash(x, differ, GREATEST, GREATEST), ByPromise.NONE);
        }
    }

    static void p26_hoursThatNoBookingMayHave() {
        EchoChamber x = inTheMidst(4);
        edges.due("the past", clash(x, 0, 7, 7), 0);
        edges.due("the present hour", clash(x, 3, 20, 20), 1);
        book(x, 0, 9999, 9999);
        edges.due("after the last hour", clash(x, 3, 10002, 10002), 4);
        dueThrow("one more", () -> clash(x, 3, 10003, 10003), ByPromise.NONE);
    }

    @Says({
        "Returns the booking with the lowest number with which such a ..",
        "Returns the number of the booking."})
    static void p26_theFirstAndTheLastOfSixteen() {
        EchoChamber x = Scenes.bookings(16);
        edges.due("the first of all", clash(x, 0, 1, 9999), 0);
        edges.due("the last", clash(x, 0, 155, 155), 15);
        edges.due("the last but one ahead of it", clash(x, 0, 147, 155), 14);
    }

    @Says("Throws `NoSuchElementException` if there is none")
    static void p26_noneWithoutBookings() {
        edges.refused(ByPromise.NONE, Scenes::bookings, 0, (x, first) -> clash(x, 3, first, GREATEST), LEAST, 0, 1);
    }

    @Says("Throws `NoSuchElementException` if there is none")
    static void p26_noneButACancelledOne() {
        edges.refused(ByPromise.NONE, BookingEdgesTest::inTheMidst, 4, (x, parts) -> clash(x, parts, 35, 37), 0, 3);
    }

    @Says("If several exceptions apply, the one that is listed first is thrown.")
    static void p26_noRoomAheadOfABadBooking() {
        edges.refused(ByPromise.NO_SUCH, Scenes::bookings, 1, (x, bad) -> x.clash(1, bad, 0, false, 5, 7), -1, 4);
        edges.refused(ByPromise.NO_SUCH, Scenes::bookings, 1, (x, bad) -> x.clash(1, 0, bad, false, 5, 7), -1, 10);
        edges.refused(ByPromise.NO_SUCH, Scenes::bookings, 1, (x, last) -> x.clash(-1, 0, 0, false, 5, last), 4, LEAST);
    }

    @Says("If several exceptions apply, the one that is listed first is thrown.")
    static void p26_aBadBookingAheadOfNone() {
        edges.refused(ByPromise.BAD, Scenes::bookings, 0, (x, bad) -> x.clash(0, bad, 0, false, 5, 7), -1, 4);
        edges.refused(ByPromise.BAD, Scenes::bookings, 0, (x, bad) -> x.clash(0, 0, bad, false, 5, 7), -1, 10);
        edges.refused(ByPromise.BAD, Scenes::bookings, 0, (x, last) -> clash(x, 0, 5, last), 4, LEAST);
    }

    // Promise 27: cancel

    @Says("Throws `IndexOutOfBoundsException` if there is no such booking")
    static void p27_noSuchBooking() {
        edges.noSuchBooking((x, booking) -> x.cancel(booking));
    }

    static void p27_theFirstAndTheLastOfSixteen() {
        EchoChamber x = Scenes.bookings(16);
        edges.due("the last", x.cancel(15), 15);
        edges.due("the first", x.cancel(0), 14);
    }

    static void p27_theOnlyOneLeavesNone() {
        edges.due("left", Scenes.bookings(1).cancel(0), 0);
    }

    @Says({
        "Cancels a booking.",
        "Returns the number of bookings that are not cancelled then."})
    static void p27_allOfSixteenLeaveNone() {
        EchoChamber x = Scenes.bookings(16);
        for (int left = 15; left >= 0; left--) {
            edges.due("left", x.cancel(15 - left), left);
        }
        edges.due("begin", x.pass(48), 0);
    }

    @Says("Throws `IllegalStateException` if it is cancelled, or its first ..")
    static void p27_aCancelledOneIsRefused() {
        edges.refused(ByPromise.STATE, BookingEdgesTest::inTheMidst, 4, (x, booking) -> x.cancel(booking), 3);
    }

    static void p27_aCancelledOneWhoseHourHasPassedIsRefused() {
        EchoChamber x = inTheMidst(4);
        x.pass(48);
        dueThrow("cancelled", () -> x.cancel(3), ByPromise.STATE);
        edges.due("changes", x.changes(0), 3);
    }

    @Says("Cancels a booking.")
    static void p27_inTheHourAheadOfItsFirstItIsCancelled() {
        EchoChamber x = Scenes.atHour(4);
        edges.due("left", x.cancel(0), 0);
        edges.due("begins", x.pass(1), 0);
        edges.due("changes", x.changes(0), 0);
    }

    @Says("Throws `IllegalStateException` if it is cancelled, or its first ..")
    static void p27_fromItsFirstHourOnItIsRefused() {
        for (int hour : new int[] {5, 6, 7, 8, 9999}) {
            edges.refused(ByPromise.STATE, Scenes::atHour, hour, (x, booking) -> x.cancel(booking), 0);
        }
    }

    static void p27_begunOnesAreNotCancelled() {
        edges.due("left", inTheMidst(4).cancel(2), 2);
    }

    // Promise 28: pass

    @Says({
        "Lets hours pass.",
        "Returns how many bookings give their rooms their states in them."})
    static void p28_oneTo48HoursPass() {
        for (int hours = 1; hours <= 48; hours++) {
            EchoChamber x = Scenes.bookings(16);
            edges.due("begin in " + hours, x.pass(hours), (hours + 5) / 10);
            edges.due("hour", x.hour(), hours);
        }
    }

    @Says("Throws `IllegalArgumentException` if it is not between 1 and 48, ..")
    static void p28_otherNumbersOfHoursAreRefused() {
        edges.refused(ByPromise.BAD, Scenes::bookings, 2, (x, hours) -> x.pass(hours), ByPromise.outside(1, 48));
        edges.refused(ByPromise.BAD, Scenes::atHour, 20, (x, hours) -> x.pass(hours), ByPromise.outside(1, 48));
        edges.refused(ByPromise.BAD, Scenes::bookings, 2, (x, hours) -> x.pass(hours), -48, -49, 9999, 10000);
    }

    @Says("The hour is 0 at first, and 9999 is the last one.")
    static void p28_theHour9999IsReached() {
        for (int hours = 1; hours <= 48; hours += 47) {
            EchoChamber x = Scenes.atHour(9999 - hours);
            book(x, 3, 9999, 9999);
            edges.due("begins", x.pass(hours), 1);
            edges.due("hour", x.hour(), 9999);
            edges.due("changes", x.changes(0), 6);
        }
    }

    @Says({
        "Throws `IllegalArgumentException` if it is not between 1 and 48, ..",
        "The hour is 0 at first, and 9999 is the last one."})
    static void p28_theHour10000IsNot() {
        edges.refused(ByPromise.BAD, Scenes::atHour, 9952, (x, hours) -> x.pass(hours), 48);
        edges.refused(ByPromise.BAD, Scenes::atHour, 9998, (x, hours) -> x.pass(hours), 2, 48);
        edges.refused(ByPromise.BAD, Scenes::atHour, 9999, (x, hours) -> x.pass(hours), 1, 48, 0, GREATEST);
    }

    @Says("When an hour passes, it increases by 1; then, by rising numbers, ..")
    static void p28_aBookingBeginsInItsFirstHourAlone() {
        EchoChamber x = Scenes.atHour(4);
        edges.due("ahead of it", x.seats(0), 0);
        edges.due("its first hour", x.pass(1), 1);
        edges.due("in it", x.seats(0), 2);
        x.setState(0, 0, 0, false);
        for (int hour = 6; hour <= 9; hour++) {
            edges.due("hour " + hour, x.pass(1), 0);
            edges.due("seats", x.seats(0), 0);
        }
    }

    static void p28_noneWithoutBookings() {
        edges.due("begin", Scenes.bookings(0).pass(48), 0);
    }

    static void p28_sixteenOfFourRoomsInOneCall() {
        EchoChamber x = new EchoChamber();
        for (int room = 0; room < 4; room++) {
            x.addRoom();
        }
        for (int i = 0; i < 16; i++) {
            edges.due("number", x.book(i % 4, i / 4, i % 4, false, 5 * (i / 4) + 1, 5 * (i / 4) + 2), i);
        }
        edges.due("begin", x.pass(16), 16);
        edges.due("curtains", x.curtains(3), 3);
        edges.due("changes of room 0", x.changes(0), 3);
        edges.due("changes of room 3", x.changes(3), 4);
    }

    @Says({
        "Returns how many bookings give their rooms their states in them.",
        "When an hour passes, it increases by 1; then, by rising numbers, .."})
    static void p28_cancelledOnesDoNotBegin() {
        EchoChamber x = Scenes.bookings(16);
        x.cancel(0);
        edges.due("begin", x.pass(15), 1);
        edges.due("changes", x.changes(0), 3);
    }

    @Says("Returns how many bookings give their rooms their states in them.")
    static void p28_aBookingOfThePresentStateCounts() {
        EchoChamber x = Scenes.bookings(2);
        edges.due("the first one", x.pass(5), 1);
        edges.due("the second one", x.pass(10), 1);
        edges.due("changes", x.changes(0), 3);
    }

    // Promise 29: hour

    @Says("Returns the hour.")
    static void p29_eachHourFrom0To9999() {
        EchoChamber x = new EchoChamber();
        int hour = 0;
        edges.due("at first", x.hour(), 0);
        while (hour < 9999) {
            int hours = 9999 - hour < 48 ? 9999 - hour : 48;
            x.pass(hours);
            hour += hours;
            edges.due("hour", x.hour(), hour);
        }
    }

    static void p29_refusedHoursDoNotPass() {
        EchoChamber x = Scenes.atHour(9998);
        dueThrow("two", () -> x.pass(2), ByPromise.BAD);
        edges.due("hour", x.hour(), 9998);
        dueThrow("none", () -> x.pass(0), ByPromise.BAD);
        edges.due("hour still", x.hour(), 9998);
    }

    // Promise 30: nextBooking

    @Says("Throws `IndexOutOfBoundsException` if there is no such room")
    static void p30_noSuchRoom() {
        edges.noSuchRoom((x, room) -> x.nextBooking(room));
    }

    @Says({
        "Returns the booking of a room that begins next, later than in the ..",
        "Returns the number of the booking."})
    static void p30_theLastOfFourRooms() {
        EchoChamber x = Scenes.rooms(4);
        x.book(3, 0, 0, false, 9999, 9999);
        edges.due("room 3", x.nextBooking(3), 1);
        dueThrow("room 2", () -> x.nextBooking(2), ByPromise.NONE);
    }

    static void p30_untilTheHourAheadOfItsFirst() {
        edges.due("at the hour 0", Scenes.bookings(1).nextBooking(0), 0);
        edges.due("at the hour 4", Scenes.atHour(4).nextBooking(0), 0);
    }

    @Says("Throws `NoSuchElementException` if there is none")
    static void p30_noneFromItsFirstHourOn() {
        for (int hour : new int[] {5, 6, 7, 8, 9999}) {
            edges.refused(ByPromise.NONE, Scenes::atHour, hour, (x, room) -> x.nextBooking(room), 0);
        }
    }

    @Says("Returns the booking of a room that begins next, later than in the ..")
    static void p30_theNextOneFromTheFirstHourOn() {
        EchoChamber x = Scenes.bookings(2);
        x.pass(5);
        edges.due("next", x.nextBooking(0), 1);
    }

    @Says("Throws `NoSuchElementException` if there is none")
    static void p30_noneWithoutBookings() {
        edges.refused(ByPromise.NONE, Scenes::bookings, 0, (x, room) -> x.nextBooking(room), 0);
    }

    @Says("Throws `NoSuchElementException` if there is none")
    static void p30_noneIfAllAreCancelled() {
        EchoChamber x = Scenes.bookings(1);
        x.cancel(0);
        dueThrow("cancelled", () -> x.nextBooking(0), ByPromise.NONE);
    }

    static void p30_eachOfSixteenInTurn() {
        EchoChamber x = Scenes.bookings(16);
        for (int i = 0; i < 16; i++) {
            edges.due("next", x.nextBooking(0), i);
            x.pass(i == 0 ? 5 : 10);
        }
        dueThrow("after the last", () -> x.nextBooking(0), ByPromise.NONE);
    }

    @Says("Returns the booking of a room that begins next, later than in the ..")
    static void p30_theLastNumberIsNextIfItBeginsFirst() {
        EchoChamber x = Scenes.bookings(15);
        book(x, 0, 1, 1);
        edges.due("next", x.nextBooking(0), 15);
        x.cancel(15);
        edges.due("next but it", x.nextBooking(0), 0);
    }

    static void p30_theLastHour() {
        EchoChamber x = Scenes.atHour(9998);
        book(x, 0, 9999, 9999);
        edges.due("ahead of it", x.nextBooking(0), 1);
        x.pass(1);
        dueThrow("in it", () -> x.nextBooking(0), ByPromise.NONE);
    }

    // Promise 31: usableShare

    @Says("Throws `NoSuchElementException` if there are none")
    static void p31_noneWithoutFilters() {
        edges.refused(ByPromise.NONE, Scenes::filters, 0, (x, none) -> x.usableShare(), 0);
        edges.refused(ByPromise.NONE, Scenes::rooms, 0, (x, none) -> x.usableShare(), 0);
    }

    static void p31_noneAndAllOfOne() {
        EchoChamber x = Scenes.filters(1);
        edges.due("all", x.usableShare(), 1.0f);
        x.setState(0, 1, 0, false);
        edges.due("none", x.usableShare(), 0.0f);
    }

    @Says("Returns the share of the filters of which a use is not barred.")
    static void p31_noneToAllOfTwenty() {
        EchoChamber x = Scenes.filters(20);
        edges.due("all", x.usableShare(), 1.0f);
        x.measure(0, 0, 1, 0, 0, 0);
        edges.due("half", x.usableShare(), 0.5f);
        x.measure(0, 9, 1, 0, 0, 0);
        edges.due("none", x.usableShare(), 0.0f);
    }

    @Says({
        "Returns the share of the filters of which a use is not barred.",
        "Returns their number divided by that of all filters, both converted to float."})
    static void p31_eachShareOfOneToTwentyIsAFloat() {
        for (int all = 1; all <= 20; all++) {
            for (int usable = 0; usable <= all; usable++) {
                EchoChamber x = new EchoChamber();
                x.addRoom();
                x.measure(0, 0, 1, 0, 0, 0);
                x.measure(0, 0, 1, 0, 0, 0);
                for (int i = 0; i < all; i++) {
                    x.makeFilter(i < usable ? 1 : 0);
                }
                edges.due(usable + " of " + all, x.usableShare(), (float) usable / (float) all);
            }
        }
    }
}
