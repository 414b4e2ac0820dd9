import java.util.ArrayList;
import java.util.HashMap;
import java.util.HashSet;
import java.util.List;
import java.util.Map;
import java.util.NoSuchElementException;
import java.util.Set;

/**
 * The document once more, held and reckoned in other ways than the class does: states and keys are texts, taps come
 * from a power series, uses from the whole row of inputs, clashes from hours in which a room is not free.
 */
final class Model {
    private final List<String> states = new ArrayList<>();
    private final List<Integer> changes = new ArrayList<>();
    private final List<int[]> samples = new ArrayList<>();
    private final List<String> keys = new ArrayList<>();
    private final List<Integer> answerRooms = new ArrayList<>();
    private final List<Integer> births = new ArrayList<>();
    private final Map<String, Integer> newest = new HashMap<>();
    private final List<Integer> filters = new ArrayList<>();
    private final List<List<Integer>> inputs = new ArrayList<>();
    private final List<int[]> bookings = new ArrayList<>();
    private final List<String> bookedStates = new ArrayList<>();
    private final Set<Integer> cancelled = new HashSet<>();
    private int hour;
    private int limit = 24;

    /** The answer to the call with this number, in the order of the document's promises. */
    Object answer(int call, int[] a, boolean areOpen) {
        switch (call) {
            case 2: return addRoom();
            case 3: return move(inList(states, a[0]), state(a[1], a[2], areOpen));
            case 4: return states.get(inList(states, a[0])).charAt(0) - '0';
            case 5: return states.get(inList(states, a[0])).charAt(1) - '0';
            case 6: return states.get(inList(states, a[0])).charAt(2) == 'o';
            case 7: return changes.get(inList(states, a[0]));
            case 8: return measure(inList(states, a[0]), a);
            case 9: return samples.get(inList(samples, a[0]))[index(a[1], 4)];
            case 10: return age(inList(samples, a[0]));
            case 11: return latest(inList(states, a[0]), a[1], a[2], a[3], areOpen);
            case 12: return statesMeasured(inList(states, a[0]));
            case 13: return samples.size();
            case 14: return makeFilter(inList(samples, a[0]));
            case 15: return filters.get(inList(filters, a[0]));
            case 16: return taps(inList(filters, a[0]))[index(a[1], 6)];
            case 17: return bar(inList(filters, a[0]));
            case 18: return use(inList(filters, a[0]), a[1]);
            case 19: return inputs.get(inList(filters, a[0])).size();
            case 20: return product(inList(filters, a[0]), inList(samples, a[1]))[index(a[2], 6)];
            case 21: return right(product(inList(filters, a[0]), inList(samples, a[1])));
            case 22: return right(product(inList(filters, a[0]), filters.get(a[0]))) == 6;
            case 23: return setLimit(a[0]);
            case 24: return usable();
            case 25: return book(inList(states, a[0]), state(a[1], a[2], areOpen), a[3], a[4]);
            case 26: return clash(inList(states, a[0]), state(a[1], a[2], areOpen), a[3], a[4]);
            case 27: return cancel(inList(bookings, a[0]));
            case 28: return pass(a[0]);
            case 29: return hour;
            case 30: return next(inList(states, a[0]));
            case 31: return share();
            default: throw new AssertionError("there is no call " + call);
        }
    }

    private static void demand(boolean holds) {
        if (!holds) {
            throw new IllegalArgumentException();
        }
    }

    private static void room(List<?> list, int most) {
        if (list.size() == most) {
            throw new IllegalStateException();
        }
    }

    private static int inList(List<?> list, int number) {
        if (number < 0 || number >= list.size()) {
            throw new IndexOutOfBoundsException();
        }
        return number;
    }

    private static int index(int index, int length) {
        if (index < 0 || index >= length) {
            throw new NoSuchElementException();
        }
        return index;
    }

    private static String state(int curtains, int seats, boolean areOpen) {
        demand(curtains >= 0 && curtains <= 3 && seats >= 0 && seats <= 9);
        return "" + curtains + seats + (areOpen ? "o" : "s");
    }

    private static int unlike(String one, String other) {
        int parts = 0;
        for (int i = 0; i < 3; i++) {
            parts += one.charAt(i) == other.charAt(i) ? 0 : 1;
        }
        return parts;
    }

    private int addRoom() {
        room(states, 4);
        states.add("00s");
        changes.add(0);
        return states.size() - 1;
    }

    private int move(int room, String state) {
        int parts = unlike(states.set(room, state), state);
        changes.set(room, changes.get(room) + parts);
        return parts;
    }

    private int measure(int room, int[] a) {
        demand(a[1] >= 0 && a[1] <= 9 && Math.abs((long) a[2]) == 1);
        for (int k = 3; k < 6; k++) {
            demand(Math.abs((long) a[k]) <= 9);
        }
        room(samples, 40);
        int number = samples.size();
        samples.add(new int[] {a[2], a[3], a[4], a[5]});
        answerRooms.add(room);
        // An answer is as old as the room's clock, that goes two hours with each change, is ahead of its birth.
        births.add(hour + 2 * changes.get(room));
        keys.add(room + " " + states.get(room) + " " + a[1]);
        newest.put(keys.get(number), number);
        return number;
    }

    private int age(int answer) {
        return hour + 2 * changes.get(answerRooms.get(answer)) - births.get(answer);
    }

    private int latest(int room, int place, int curtains, int seats, boolean areOpen) {
        demand(place >= 0 && place <= 9);
        Integer found = newest.get(room + " " + state(curtains, seats, areOpen) + " " + place);
        if (found == null) {
            throw new NoSuchElementException();
        }
        return found;
    }

    private int statesMeasured(int room) {
        Set<String> seen = new HashSet<>();
        for (String key : keys) {
            if (key.startsWith(room + " ")) {
                seen.add(key.substring(0, 5));
            }
        }
        return seen.size();
    }

    private int makeFilter(int answer) {
        room(filters, 20);
        filters.add(answer);
        inputs.add(new ArrayList<>());
        return filters.size() - 1;
    }

    /** With u = first * answer - 1, 1 / answer is first * (1 - u + u^2 - ..), as first * first is 1. */
    private long[] taps(int filter) {
        int[] row = samples.get(filters.get(filter));
        long[] minusU = new long[6];
        for (int k = 1; k < 4; k++) {
            minusU[k] = -(long) row[0] * row[k];
        }
        long[] sum = {1, 0, 0, 0, 0, 0};
        long[] power = {1, 0, 0, 0, 0, 0};
        for (int j = 1; j < 6; j++) {
            power = times(power, minusU);
            for (int n = 0; n < 6; n++) {
                sum[n] += power[n];
            }
        }
        return times(sum, new long[] {row[0], 0, 0, 0, 0, 0});
    }

    private static long[] times(long[] one, long[] other) {
        long[] row = new long[6];
        for (int i = 0; i < 6; i++) {
            for (int j = 0; i + j < 6; j++) {
                row[i + j] += one[i] * other[j];
            }
        }
        return row;
    }

    private long[] product(int filter, int answer) {
        long[] row = new long[6];
        for (int k = 0; k < 4; k++) {
            row[k] = samples.get(answer)[k];
        }
        return times(row, taps(filter));
    }

    private static int right(long[] row) {
        int n = 0;
        for (long want = 1; n < 6 && row[n] == want; want = 0) {
            n++;
        }
        return n;
    }

    private char bar(int filter) {
        int answer = filters.get(filter);
        String key = keys.get(answer);
        boolean inState = key.substring(2, 5).equals(states.get(answerRooms.get(answer)));
        boolean isNewest = newest.get(key) == answer;
        return !inState ? 's' : !isNewest ? 'l' : age(answer) > limit ? 'o' : '-';
    }

    private long use(int filter, int input) {
        demand(Math.abs((long) input) <= 999);
        if (bar(filter) != '-') {
            throw new UnsupportedOperationException();
        }
        List<Integer> row = inputs.get(filter);
        row.add(input);
        long[] taps = taps(filter);
        long sum = 0;
        for (int i = 0; i < row.size(); i++) {
            int back = row.size() - 1 - i;
            sum += back < 6 ? taps[back] * row.get(i) : 0;
        }
        return sum;
    }

    private int setLimit(int age) {
        demand(age >= 0 && age <= 999);
        int before = limit;
        limit = age;
        return before;
    }

    private int usable() {
        int count = 0;
        for (int i = 0; i < filters.size(); i++) {
            count += bar(i) == '-' ? 1 : 0;
        }
        return count;
    }

    /** With d parts to set up, each booking keeps its room d hours longer: two clash if these hours meet. */
    private int firstClash(int room, String state, int first, int last) {
        for (int i = 0; i < bookings.size(); i++) {
            int[] b = bookings.get(i);
            long d = unlike(state, bookedStates.get(i));
            if (b[0] == room && !cancelled.contains(i) && Math.max(first, b[1]) <= Math.min(last + d, b[2] + d)) {
                return i;
            }
        }
        return -1;
    }

    private int book(int room, String state, int first, int last) {
        demand(first > hour && last >= first && last <= 9999);
        if (firstClash(room, state, first, last) >= 0) {
            throw new UnsupportedOperationException();
        }
        room(bookings, 16);
        bookings.add(new int[] {room, first, last});
        bookedStates.add(state);
        return bookings.size() - 1;
    }

    private int clash(int room, String state, int first, int last) {
        demand(first <= last);
        int found = firstClash(room, state, first, last);
        if (found < 0) {
            throw new NoSuchElementException();
        }
        return found;
    }

    private int cancel(int booking) {
        if (bookings.get(booking)[1] <= hour || !cancelled.add(booking)) {
            throw new IllegalStateException();
        }
        return bookings.size() - cancelled.size();
    }

    private int pass(int hours) {
        demand(hours >= 1 && hours <= 48 && hour + hours <= 9999);
        int begun = 0;
        for (int end = hour + hours; hour < end;) {
            hour++;
            for (int i = 0; i < bookings.size(); i++) {
                if (bookings.get(i)[1] == hour && !cancelled.contains(i)) {
                    move(bookings.get(i)[0], bookedStates.get(i));
                    begun++;
                }
            }
        }
        return begun;
    }

    private int next(int room) {
        for (int h = hour + 1; h <= 9999; h++) {
            for (int i = 0; i < bookings.size(); i++) {
                if (bookings.get(i)[0] == room && bookings.get(i)[1] == h && !cancelled.contains(i)) {
                    return i;
                }
            }
        }
        throw new NoSuchElementException();
    }

    private float share() {
        if (filters.isEmpty()) {
            throw new NoSuchElementException();
        }
        return (float) usable() / (float) filters.size();
    }
}
