/** Objects with a given number of things in them, in the midst of their use. */
final class Scenes {
    private Scenes() {
    }

    /** Room i has the curtains i, the seats 9 - i, and shut doors if i is even. */
    static EchoChamber rooms(int rooms) {
        EchoChamber x = new EchoChamber();
        for (int i = 0; i < rooms; i++) {
            x.addRoom();
            x.setState(i, i, 9 - i, i % 2 == 1);
        }
        if (rooms > 0) {
            x.measure(0, 5, -1, 2, 3, -4);
            x.makeFilter(0);
            x.use(0, 6);
            x.book(0, 1, 2, true, 4, 6);
            x.pass(2);
        }
        return x;
    }

    /** One room, that has its state from the start; answer i is for the place i % 10 and has i % 10 as a sample. */
    static EchoChamber answers(int answers) {
        EchoChamber x = new EchoChamber();
        x.addRoom();
        for (int i = 0; i < answers; i++) {
            x.measure(0, i % 10, i % 2 == 0 ? 1 : -1, i % 10, -(i % 10), 0);
        }
        if (answers > 0) {
            x.makeFilter(answers - 1);
            x.use(0, 6);
        }
        x.book(0, 1, 2, true, 4, 6);
        x.pass(2);
        return x;
    }

    /** One room with the answers 1, 2, -1, 0 and -1, 3, 0, 9; filter i is for answer i % 2, and got the input i. */
    static EchoChamber filters(int filters) {
        EchoChamber x = new EchoChamber();
        x.addRoom();
        x.measure(0, 0, 1, 2, -1, 0);
        x.measure(0, 9, -1, 3, 0, 9);
        for (int i = 0; i < filters; i++) {
            x.makeFilter(i % 2);
            x.use(i, i);
        }
        x.book(0, 1, 2, true, 4, 6);
        x.pass(2);
        return x;
    }

    /** One room; booking i is for the state 1, 2, open and for the hours 10i + 5 to 10i + 7. */
    static EchoChamber bookings(int bookings) {
        EchoChamber x = new EchoChamber();
        x.addRoom();
        x.measure(0, 0, 1, 2, -1, 0);
        x.makeFilter(0);
        x.use(0, 6);
        for (int i = 0; i < bookings; i++) {
            x.book(0, 1, 2, true, 10 * i + 5, 10 * i + 7);
        }
        return x;
    }

    /** As with one booking, but at a later hour. */
    static EchoChamber atHour(int hour) {
        EchoChamber x = bookings(1);
        passTo(x, hour);
        return x;
    }

    /** As many rooms, answers, filters and bookings as there may be, at this hour; bookings begin at the hour 5. */
    static EchoChamber full(int hour) {
        EchoChamber x = new EchoChamber();
        for (int i = 0; i < 4; i++) {
            x.addRoom();
            x.setState(i, i, 9 - i, i % 2 == 1);
        }
        for (int i = 0; i < 40; i++) {
            x.measure(i % 4, i / 4, i % 3 == 0 ? -1 : 1, i % 10, -(i % 7), i % 5);
        }
        for (int i = 0; i < 20; i++) {
            x.makeFilter(2 * i);
            x.use(i, 10 * i);
        }
        for (int i = 0; i < 16; i++) {
            x.book(i % 4, 1, 2, true, 10 * (i / 4) + 5, 10 * (i / 4) + 7);
        }
        x.cancel(15);
        passTo(x, hour);
        return x;
    }

    static void passTo(EchoChamber x, int hour) {
        for (int left = hour - x.hour(); left > 0; left -= 48) {
            x.pass(left < 48 ? left : 48);
        }
    }
}
