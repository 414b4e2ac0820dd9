import java.util.ArrayList;
import java.util.NoSuchElementException;

/** A recording laboratory: rooms, the answers measured in them, filters that undo answers, and bookings. */
public final class EchoChamber {
    private static final int MOST_ROOMS = 4;
    private static final int MOST_ANSWERS = 40;
    private static final int MOST_FILTERS = 20;
    private static final int MOST_BOOKINGS = 16;
    private static final int MOST_CURTAINS = 3;
    private static final int MOST_SEATS = 9;
    private static final int LAST_PLACE = 9;
    private static final int MOST_SAMPLE = 9;
    private static final int SAMPLES = 4;
    private static final int TAPS = 6;
    private static final int MOST_INPUT = 999;
    private static final int LIMIT_AT_FIRST = 24;
    private static final int MOST_LIMIT = 999;
    private static final int AGE_OF_A_CHANGE = 2;
    private static final int MOST_HOURS_AT_ONCE = 48;
    private static final int LAST_HOUR = 9999;
    private static final char NO_BAR = '-';

    private final ArrayList<Room> roomList;
    private final ArrayList<Answer> answerList;
    private final ArrayList<Filter> filterList;
    private final ArrayList<Booking> bookingList;
    private int presentHour;
    private int ageLimit;

    public EchoChamber() {
        roomList = new ArrayList<Room>();
        answerList = new ArrayList<Answer>();
        filterList = new ArrayList<Filter>();
        bookingList = new ArrayList<Booking>();
        presentHour = 0;
        ageLimit = LIMIT_AT_FIRST;
    }

    // Rooms

    public int addRoom() throws IllegalStateException {
        int number = roomList.size();
        if (number >= MOST_ROOMS) {
            throw new IllegalStateException("there are 4 rooms");
        }
        roomList.add(new Room(new State(0, 0, false)));
        return number;
    }

    public int setState(int room, int curtains, int seats, boolean areOpen)
            throws IndexOutOfBoundsException, IllegalArgumentException {
        Room changed = roomAt(room);
        return changed.take(stateOf(curtains, seats, areOpen));
    }

    public int curtains(int room) throws IndexOutOfBoundsException {
        return roomAt(room).state.curtainCount;
    }

    public int seats(int room) throws IndexOutOfBoundsException {
        return roomAt(room).state.seatCount;
    }

    public boolean areOpen(int room) throws IndexOutOfBoundsException {
        return roomAt(room).state.hasOpenDoors;
    }

    public int changes(int room) throws IndexOutOfBoundsException {
        return roomAt(room).changeCount;
    }

    // Answers

    public int measure(int room, int place, int first, int second, int third, int fourth)
            throws IndexOutOfBoundsException, IllegalArgumentException, IllegalStateException {
        Room measured = roomAt(room);
        checkPlace(place);
        if (first != 1 && first != -1) {
            throw new IllegalArgumentException("the first sample is 1 or -1");
        }
        checkSample(second);
        checkSample(third);
        checkSample(fourth);
        int number = answerList.size();
        if (number >= MOST_ANSWERS) {
            throw new IllegalStateException("there are 40 answers");
        }
        int[] samples = {first, second, third, fourth};
        answerList.add(new Answer(number, measured, place, samples, presentHour));
        return number;
    }

    public int sample(int answer, int index) throws IndexOutOfBoundsException, NoSuchElementException {
        Answer asked = answerAt(answer);
        if (index < 0 || index >= SAMPLES) {
            throw new NoSuchElementException("a sample has an index from 0 to 3");
        }
        return asked.samples[index];
    }

    public int age(int answer) throws IndexOutOfBoundsException {
        return answerAt(answer).ageAt(presentHour);
    }

    public int latest(int room, int place, int curtains, int seats, boolean areOpen)
            throws IndexOutOfBoundsException, IllegalArgumentException, NoSuchElementException {
        Room asked = roomAt(room);
        checkPlace(place);
        Answer newest = newestAnswer(asked, place, stateOf(curtains, seats, areOpen));
        if (newest == null) {
            throw new NoSuchElementException("there is no such answer");
        }
        return newest.number;
    }

    public int statesMeasured(int room) throws IndexOutOfBoundsException {
        Room asked = roomAt(room);
        int states = 0;
        for (int i = 0; i < answerList.size(); i++) {
            Answer answer = answerList.get(i);
            if (answer.room == asked && isFirstOfItsState(answer)) {
                states++;
            }
        }
        return states;
    }

    public int answers() {
        return answerList.size();
    }

    // Filters

    public int makeFilter(int answer) throws IndexOutOfBoundsException, IllegalStateException {
        Answer undone = answerAt(answer);
        int number = filterList.size();
        if (number >= MOST_FILTERS) {
            throw new IllegalStateException("there are 20 filters");
        }
        filterList.add(new Filter(undone));
        return number;
    }

    public int answerOf(int filter) throws IndexOutOfBoundsException {
        return filterAt(filter).answer.number;
    }

    public long tap(int filter, int index) throws IndexOutOfBoundsException, NoSuchElementException {
        Filter asked = filterAt(filter);
        if (index < 0 || index >= TAPS) {
            throw new NoSuchElementException("a tap has an index from 0 to 5");
        }
        return asked.taps[index];
    }

    public char bar(int filter) throws IndexOutOfBoundsException {
        return firstBar(filterAt(filter));
    }

    public long use(int filter, int input)
            throws IndexOutOfBoundsException, IllegalArgumentException, UnsupportedOperationException {
        Filter used = filterAt(filter);
        if (input < -MOST_INPUT || input > MOST_INPUT) {
            throw new IllegalArgumentException("an input is from -999 to 999");
        }
        if (firstBar(used) != NO_BAR) {
            throw new UnsupportedOperationException("the use is barred");
        }
        used.getInput(input);
        return used.given();
    }

    public int inputs(int filter) throws IndexOutOfBoundsException {
        return filterAt(filter).inputCount;
    }

    public long product(int filter, int answer, int index)
            throws IndexOutOfBoundsException, NoSuchElementException {
        Filter asked = filterAt(filter);
        Answer other = answerAt(answer);
        if (index < 0 || index >= TAPS) {
            throw new NoSuchElementException("a sample of a product row has an index from 0 to 5");
        }
        return asked.rowSample(other, index);
    }

    public int rightSamples(int filter, int answer) throws IndexOutOfBoundsException {
        Filter asked = filterAt(filter);
        return asked.rightSamplesWith(answerAt(answer));
    }

    public boolean isChecked(int filter) throws IndexOutOfBoundsException {
        Filter asked = filterAt(filter);
        return asked.rightSamplesWith(asked.answer) == TAPS;
    }

    public int setLimit(int age) throws IllegalArgumentException {
        if (age < 0 || age > MOST_LIMIT) {
            throw new IllegalArgumentException("a limit is from 0 to 999");
        }
        int before = ageLimit;
        ageLimit = age;
        return before;
    }

    public int usable() {
        int count = 0;
        for (int i = 0; i < filterList.size(); i++) {
            if (firstBar(filterList.get(i)) == NO_BAR) {
                count++;
            }
        }
        return count;
    }

    // Bookings and hours

    public int book(int room, int curtains, int seats, boolean areOpen, int first, int last)
            throws IndexOutOfBoundsException, IllegalArgumentException, UnsupportedOperationException,
            IllegalStateException {
        Room booked = roomAt(room);
        State state = stateOf(curtains, seats, areOpen);
        if (first <= presentHour || last < first || last > LAST_HOUR) {
            throw new IllegalArgumentException("there are no such hours to book");
        }
        if (firstClash(booked, state, first, last) != null) {
            throw new UnsupportedOperationException("it clashes with a booking");
        }
        int number = bookingList.size();
        if (number >= MOST_BOOKINGS) {
            throw new IllegalStateException("there are 16 bookings");
        }
        bookingList.add(new Booking(number, booked, state, first, last));
        return number;
    }

    public int clash(int room, int curtains, int seats, boolean areOpen, int first, int last)
            throws IndexOutOfBoundsException, IllegalArgumentException, NoSuchElementException {
        Room asked = roomAt(room);
        State state = stateOf(curtains, seats, areOpen);
        if (last < first) {
            throw new IllegalArgumentException("the last hour is less than the first one");
        }
        Booking other = firstClash(asked, state, first, last);
        if (other == null) {
            throw new NoSuchElementException("it clashes with no booking");
        }
        return other.number;
    }

    public int cancel(int booking) throws IndexOutOfBoundsException, IllegalStateException {
        if (booking < 0 || booking >= bookingList.size()) {
            throw new IndexOutOfBoundsException("there is no such booking");
        }
        Booking ended = bookingList.get(booking);
        if (ended.isCancelled || ended.first <= presentHour) {
            throw new IllegalStateException("it is cancelled or has begun");
        }
        ended.isCancelled = true;
        return standingBookings();
    }

    public int pass(int hours) throws IllegalArgumentException {
        if (hours < 1 || hours > MOST_HOURS_AT_ONCE || presentHour + hours > LAST_HOUR) {
            throw new IllegalArgumentException("so many hours can not pass");
        }
        int begun = 0;
        for (int i = 0; i < hours; i++) {
            presentHour++;
            begun += beginBookings();
        }
        return begun;
    }

    public int hour() {
        return presentHour;
    }

    public int nextBooking(int room) throws IndexOutOfBoundsException, NoSuchElementException {
        Room asked = roomAt(room);
        Booking next = null;
        for (int i = 0; i < bookingList.size(); i++) {
            Booking booking = bookingList.get(i);
            if (booking.standsFor(asked) && booking.first > presentHour
                    && (next == null || booking.first < next.first)) {
                next = booking;
            }
        }
        if (next == null) {
            throw new NoSuchElementException("no booking of the room is to come");
        }
        return next.number;
    }

    public float usableShare() throws NoSuchElementException {
        int all = filterList.size();
        if (all == 0) {
            throw new NoSuchElementException("there are no filters");
        }
        return (float) usable() / (float) all;
    }

    // What the calls have in common

    private Room roomAt(int number) {
        if (number < 0 || number >= roomList.size()) {
            throw new IndexOutOfBoundsException("there is no such room");
        }
        return roomList.get(number);
    }

    private Answer answerAt(int number) {
        if (number < 0 || number >= answerList.size()) {
            throw new IndexOutOfBoundsException("there is no such answer");
        }
        return answerList.get(number);
    }

    private Filter filterAt(int number) {
        if (number < 0 || number >= filterList.size()) {
            throw new IndexOutOfBoundsException("there is no such filter");
        }
        return filterList.get(number);
    }

    private static State stateOf(int curtains, int seats, boolean areOpen) {
        if (curtains < 0 || curtains > MOST_CURTAINS || seats < 0 || seats > MOST_SEATS) {
            throw new IllegalArgumentException("there is no such state");
        }
        return new State(curtains, seats, areOpen);
    }

    private static void checkPlace(int place) {
        if (place < 0 || place > LAST_PLACE) {
            throw new IllegalArgumentException("there is no such place");
        }
    }

    private static void checkSample(int sample) {
        if (sample < -MOST_SAMPLE || sample > MOST_SAMPLE) {
            throw new IllegalArgumentException("a sample is from -9 to 9");
        }
    }

    /** The latest answer for these, or null if there is none. */
    private Answer newestAnswer(Room room, int place, State state) {
        for (int i = answerList.size() - 1; i >= 0; i--) {
            Answer answer = answerList.get(i);
            if (answer.place == place && answer.isForState(room, state)) {
                return answer;
            }
        }
        return null;
    }

    /** Whether no answer ahead of this one is for the same state of its room. */
    private boolean isFirstOfItsState(Answer answer) {
        for (int i = 0; i < answerList.size(); i++) {
            Answer other = answerList.get(i);
            if (other.isForState(answer.room, answer.state)) {
                return other.number == answer.number;
            }
        }
        return false;
    }

    private char firstBar(Filter filter) {
        Answer answer = filter.answer;
        if (answer.room.state.partsUnlike(answer.state) > 0) {
            return 's';
        }
        if (newestAnswer(answer.room, answer.place, answer.state) != answer) {
            return 'l';
        }
        if (answer.ageAt(presentHour) > ageLimit) {
            return 'o';
        }
        return NO_BAR;
    }

    /** The booking with the lowest number with which such a one clashes, or null if there is none. */
    private Booking firstClash(Room room, State state, int first, int last) {
        for (int i = 0; i < bookingList.size(); i++) {
            Booking booking = bookingList.get(i);
            if (booking.standsFor(room) && booking.isTooNear(state, first, last)) {
                return booking;
            }
        }
        return null;
    }

    private int standingBookings() {
        int count = 0;
        for (int i = 0; i < bookingList.size(); i++) {
            if (!bookingList.get(i).isCancelled) {
                count++;
            }
        }
        return count;
    }

    /** Gives rooms the states of the bookings that begin in the present hour, and tells how many these are. */
    private int beginBookings() {
        int begun = 0;
        for (int i = 0; i < bookingList.size(); i++) {
            Booking booking = bookingList.get(i);
            if (!booking.isCancelled && booking.first == presentHour) {
                booking.room.take(booking.state);
                begun++;
            }
        }
        return begun;
    }

    /** A state of a room; it never changes, so that rooms, answers and bookings may share it. */
    private static final class State {
        final int curtainCount;
        final int seatCount;
        final boolean hasOpenDoors;

        State(int curtainCount, int seatCount, boolean hasOpenDoors) {
            this.curtainCount = curtainCount;
            this.seatCount = seatCount;
            this.hasOpenDoors = hasOpenDoors;
        }

        int partsUnlike(State other) {
            int parts = 0;
            if (curtainCount != other.curtainCount) {
                parts++;
            }
            if (seatCount != other.seatCount) {
                parts++;
            }
            if (hasOpenDoors != other.hasOpenDoors) {
                parts++;
            }
            return parts;
        }
    }

    private static final class Room {
        State state;
        int changeCount;

        Room(State state) {
            this.state = state;
            this.changeCount = 0;
        }

        /** Takes a state and tells in how many parts it differs from the one before. */
        int take(State next) {
            int parts = state.partsUnlike(next);
            state = next;
            changeCount += parts;
            return parts;
        }
    }

    private static final class Answer {
        final int number;
        final Room room;
        final State state;
        final int place;
        final int[] samples;
        final int hourThen;
        final int changesThen;

        Answer(int number, Room room, int place, int[] samples, int hourThen) {
            this.number = number;
            this.room = room;
            this.state = room.state;
            this.place = place;
            this.samples = samples;
            this.hourThen = hourThen;
            this.changesThen = room.changeCount;
        }

        boolean isForState(Room otherRoom, State otherState) {
            return room == otherRoom && state.partsUnlike(otherState) == 0;
        }

        int ageAt(int hourNow) {
            return hourNow - hourThen + AGE_OF_A_CHANGE * (room.changeCount - changesThen);
        }
    }

    private static final class Filter {
        final Answer answer;
        final long[] taps;
        /** The latest inputs, the newest one first: as many as there are taps, as older ones count no more. */
        final int[] past;
        int inputCount;

        Filter(Answer answer) {
            this.answer = answer;
            this.taps = tapsUndoing(answer.samples);
            this.past = new int[TAPS];
            this.inputCount = 0;
        }

        private static long[] tapsUndoing(int[] samples) {
            long[] taps = new long[TAPS];
            taps[0] = samples[0];
            for (int n = 1; n < TAPS; n++) {
                long sum = 0;
                for (int k = 1; k < SAMPLES && k <= n; k++) {
                    sum += samples[k] * taps[n - k];
                }
                taps[n] = -samples[0] * sum;
            }
            return taps;
        }

        void getInput(int input) {
            for (int k = TAPS - 1; k > 0; k--) {
                past[k] = past[k - 1];
            }
            past[0] = input;
            inputCount++;
        }

        long given() {
            long sum = 0;
            for (int k = 0; k < TAPS; k++) {
                sum += taps[k] * past[k];
            }
            return sum;
        }

        /** A sample of the product row with an answer; the index is from 0 to 5. */
        long rowSample(Answer other, int index) {
            long sum = 0;
            for (int k = 0; k < SAMPLES && k <= index; k++) {
                sum += other.samples[k] * taps[index - k];
            }
            return sum;
        }

        int rightSamplesWith(Answer other) {
            int right = 0;
            while (right < TAPS && rowSample(other, right) == (right == 0 ? 1 : 0)) {
                right++;
            }
            return right;
        }
    }

    private static final class Booking {
        final int number;
        final Room room;
        final State state;
        final int first;
        final int last;
        boolean isCancelled;

        Booking(int number, Room room, State state, int first, int last) {
            this.number = number;
            this.room = room;
            this.state = state;
            this.first = first;
            this.last = last;
            this.isCancelled = false;
        }

        boolean standsFor(Room asked) {
            return !isCancelled && room == asked;
        }

        boolean isTooNear(State otherState, int otherFirst, int otherLast) {
            int parts = state.partsUnlike(otherState);
            return hoursBetween(last, otherFirst) < parts && hoursBetween(otherLast, first) < parts;
        }

        /** Less than 0 if the last hour is not ahead of the first one; long, as clash may ask for any hours. */
        private static long hoursBetween(int last, int first) {
            return (long) first - last - 1;
        }
    }
}
