import java.util.NoSuchElementException;

/** Promises 14 to 24 and 31. */
public final class FiltersTest {
    private static final Class<IndexOutOfBoundsException> NO_SUCH = IndexOutOfBoundsException.class;
    private static final Class<IllegalArgumentException> BAD = IllegalArgumentException.class;
    private static final Class<UnsupportedOperationException> BARRED = UnsupportedOperationException.class;
    private static final Class<NoSuchElementException> NONE = NoSuchElementException.class;
    private static final int[] FAR = {Integer.MAX_VALUE, Integer.MIN_VALUE};

    private static final Check check = new Check("FiltersTest");

    public static void main(String[] args) {
        makeFilter();
        filtersThatAreNotThere();
        taps();
        bars();
        barOfAge();
        use();
        limitsOfUse();
        products();
        rightSamples();
        setLimit();
        usable();
        check.end();
    }

    /** Filter 0 is for the answer 1, 2, -1, 0 and filter 1 for -1, 3, 0, 9; both can be used. */
    private static EchoChamber inUse() {
        EchoChamber x = new EchoChamber();
        x.addRoom();
        x.measure(0, 0, 1, 2, -1, 0);
        x.measure(0, 1, -1, 3, 0, 9);
        x.makeFilter(0);
        x.makeFilter(1);
        x.use(0, 4);
        return x;
    }

    private static EchoChamber full() {
        EchoChamber x = new EchoChamber();
        x.addRoom();
        x.measure(0, 0, 1, 2, -1, 0);
        for (int i = 0; i < 20; i++) {
            x.makeFilter(0);
        }
        return x;
    }

    private static EchoChamber changed() {
        EchoChamber x = inUse();
        x.setState(0, 0, 0, true);
        return x;
    }

    private static void makeFilter() {
        EchoChamber x = inUse();
        check.due("14 number", x.makeFilter(0), 2);
        check.due("15 answer of 0", x.answerOf(0), 0);
        check.due("15 answer of 1", x.answerOf(1), 1);
        check.due("15 answer of 2", x.answerOf(2), 0);
        x.setState(0, 3, 3, true);
        check.due("14 in another state too", x.makeFilter(1), 3);
        EchoChamber many = full();
        check.due("15 the twentieth", many.answerOf(19), 0);
        check.refused("14 one more", IllegalStateException.class, FiltersTest::full, e -> e.makeFilter(0));
        check.refused("14 one more, of no answer", NO_SUCH, FiltersTest::full, e -> e.makeFilter(1));
        for (int answer : new int[] {-1, 2, FAR[0], FAR[1]}) {
            check.refused("14 answer " + answer, NO_SUCH, FiltersTest::inUse, e -> e.makeFilter(answer));
        }
    }

    private static void filtersThatAreNotThere() {
        for (int filter : new int[] {-1, 2, FAR[0], FAR[1]}) {
            check.refused("15 filter " + filter, NO_SUCH, FiltersTest::inUse, x -> x.answerOf(filter));
            check.refused("16 filter " + filter, NO_SUCH, FiltersTest::inUse, x -> x.tap(filter, 0));
            check.refused("17 filter " + filter, NO_SUCH, FiltersTest::inUse, x -> x.bar(filter));
            check.refused("18 filter " + filter, NO_SUCH, FiltersTest::inUse, x -> x.use(filter, 0));
            check.refused("19 filter " + filter, NO_SUCH, FiltersTest::inUse, x -> x.inputs(filter));
            check.refused("20 filter " + filter, NO_SUCH, FiltersTest::inUse, x -> x.product(filter, 0, 0));
            check.refused("21 filter " + filter, NO_SUCH, FiltersTest::inUse, x -> x.rightSamples(filter, 0));
            check.refused("22 filter " + filter, NO_SUCH, FiltersTest::inUse, x -> x.isChecked(filter));
            check.refused("20 answer " + filter, NO_SUCH, FiltersTest::inUse, x -> x.product(0, filter, 0));
            check.refused("21 answer " + filter, NO_SUCH, FiltersTest::inUse, x -> x.rightSamples(0, filter));
        }
    }

    private static void taps() {
        dueTaps(new int[] {1, 2, -1, 0}, new long[] {1, -2, 5, -12, 29, -70});
        dueTaps(new int[] {-1, 3, 0, 9}, new long[] {-1, -3, -9, -36, -135, -486});
        dueTaps(new int[] {1, 0, 0, 0}, new long[] {1, 0, 0, 0, 0, 0});
        dueTaps(new int[] {-1, 0, 0, 2}, new long[] {-1, 0, 0, -2, 0, 0});
        dueTaps(new int[] {1, 0, 3, 0}, new long[] {1, 0, -3, 0, 9, 0});
        dueTaps(new int[] {-1, -9, -9, -9}, new long[] {-1, 9, -72, 576, -4617, 37017});
        dueTaps(new int[] {1, -9, -9, -9}, new long[] {1, 9, 90, 900, 8991, 89829});
        for (int index : new int[] {-1, 6, FAR[0], FAR[1]}) {
            check.refused("16 index " + index, NONE, FiltersTest::inUse, x -> x.tap(0, index));
        }
        check.refused("16 the filter is looked at first", NO_SUCH, FiltersTest::inUse, x -> x.tap(2, 6));
    }

    private static void dueTaps(int[] samples, long[] taps) {
        EchoChamber x = new EchoChamber();
        x.addRoom();
        x.measure(0, 0, samples[0], samples[1], samples[2], samples[3]);
        x.makeFilter(0);
        for (int k = 0; k < 6; k++) {
            check.due("16 tap " + k + " for " + samples[0] + ", " + samples[1], x.tap(0, k), taps[k]);
        }
        check.due("22 checked", x.isChecked(0), true);
        check.due("21 all right", x.rightSamples(0, 0), 6);
    }

    private static void bars() {
        EchoChamber x = inUse();
        x.addRoom();
        check.due("17 nothing", x.bar(0), '-');
        x.setState(1, 1, 1, true);
        check.due("17 another room's state", x.bar(0), '-');
        x.setState(0, 1, 0, false);
        check.due("17 other curtains", x.bar(0), 's');
        x.setState(0, 0, 1, false);
        check.due("17 other seats", x.bar(0), 's');
        x.setState(0, 0, 0, true);
        check.due("17 other doors", x.bar(0), 's');
        x.setState(0, 0, 0, false);
        check.due("17 the state is back", x.bar(0), '-');
        x.measure(0, 1, 1, 0, 0, 0);
        check.due("17 later at another place", x.bar(0), '-');
        check.due("17 not the latest", x.bar(1), 'l');
        x.setState(0, 0, 0, true);
        x.measure(0, 0, 1, 0, 0, 0);
        check.due("17 state ahead of latest", x.bar(1), 's');
        x.setState(0, 0, 0, false);
        check.due("17 later in another state", x.bar(0), '-');
        x.pass(40);
        check.due("17 latest ahead of age", x.bar(1), 'l');
        check.due("17 too old", x.bar(0), 'o');
        x.setState(0, 0, 0, true);
        check.due("17 state ahead of age", x.bar(0), 's');
        x.makeFilter(1);
        check.due("17 a new filter of an old answer", x.bar(2), 's');
    }

    private static void barOfAge() {
        EchoChamber x = inUse();
        x.pass(24);
        check.due("17 as old as the limit", x.bar(0), '-');
        x.pass(1);
        check.due("17 one hour older", x.bar(0), 'o');
        x.setLimit(25);
        check.due("17 a higher limit", x.bar(0), '-');
        x.setState(0, 1, 0, false);
        x.setState(0, 0, 0, false);
        check.due("17 changes make it older", x.bar(0), 'o');
        x.setLimit(29);
        check.due("17 by two each", x.bar(0), '-');
        x.setLimit(28);
        check.due("17 and no less", x.bar(0), 'o');
    }

    private static void use() {
        EchoChamber x = inUse();
        check.due("19 one input", x.inputs(0), 1);
        check.due("19 of its own alone", x.inputs(1), 0);
        check.due("18 the second input", x.use(0, 10), 2L);
        check.due("18 the third", x.use(0, -1), -1L);
        check.due("18 the fourth", x.use(0, 0), 4L);
        check.due("18 the fifth", x.use(0, 0), -9L);
        check.due("18 the sixth", x.use(0, 0), 22L);
        check.due("18 the seventh", x.use(0, 0), -729L);
        check.due("18 the eighth", x.use(0, 0), 70L);
        check.due("18 the ninth", x.use(0, 0), 0L);
        check.due("19 nine inputs", x.inputs(0), 9);
        check.due("18 the other has a past of its own", x.use(1, -999), 999L);
        check.due("18 the highest input", x.use(1, 999), 1998L);
        check.due("19 two inputs", x.inputs(1), 2);
        check.due("18 the age is not an input's", x.age(0), 0);
    }

    private static void limitsOfUse() {
        for (int input : new int[] {-1000, 1000, FAR[0], FAR[1]}) {
            check.refused("18 input " + input, BAD, FiltersTest::inUse, x -> x.use(0, input));
            check.refused("18 a barred input " + input, BAD, FiltersTest::changed, x -> x.use(0, input));
        }
        check.refused("18 the filter is looked at first", NO_SUCH, FiltersTest::changed, x -> x.use(2, 1000));
        check.refused("18 another state", BARRED, FiltersTest::changed, x -> x.use(0, 1));
        check.refused("18 not the latest", BARRED, () -> {
            EchoChamber x = inUse();
            x.measure(0, 0, 1, 0, 0, 0);
            return x;
        }, x -> x.use(0, 1));
        check.refused("18 too old", BARRED, () -> {
            EchoChamber x = inUse();
            x.pass(25);
            return x;
        }, x -> x.use(0, 1));
        EchoChamber x = changed();
        Check.told(() -> x.use(0, 9));
        check.due("19 a barred use gives no input", x.inputs(0), 1);
        x.setState(0, 0, 0, false);
        check.due("18 nor a past", x.use(0, 0), -8L);
    }

    private static void products() {
        EchoChamber x = inUse();
        long[] own = {1, 0, 0, 0, 0, 0};
        long[] other = {-1, 5, -11, 36, -83, 202};
        for (int n = 0; n < 6; n++) {
            check.due("20 own sample " + n, x.product(0, 0, n), own[n]);
            check.due("20 other sample " + n, x.product(0, 1, n), other[n]);
        }
        for (int index : new int[] {-1, 6, FAR[0], FAR[1]}) {
            check.refused("20 index " + index, NONE, FiltersTest::inUse, e -> e.product(0, 0, index));
        }
        check.refused("20 the filter is looked at first", NO_SUCH, FiltersTest::inUse, e -> e.product(2, 0, 6));
        check.refused("20 the answer is looked at first", NO_SUCH, FiltersTest::inUse, e -> e.product(0, 2, 6));
        x.setState(0, 1, 1, true);
        check.due("20 barred or not", x.product(0, 1, 3), 36L);
    }

    private static void rightSamples() {
        EchoChamber x = new EchoChamber();
        x.addRoom();
        x.measure(0, 0, 1, 0, 0, 0);
        x.measure(0, 0, -1, 0, 0, 0);
        x.measure(0, 0, 1, 5, 0, 0);
        x.measure(0, 0, 1, 0, 5, 0);
        x.measure(0, 0, 1, 0, 0, 5);
        x.measure(0, 0, 1, 1, 1, 1);
        x.makeFilter(0);
        check.due("21 its own", x.rightSamples(0, 0), 6);
        check.due("21 the first one is wrong, later ones count no more", x.rightSamples(0, 1), 0);
        check.due("21 the second one is wrong", x.rightSamples(0, 2), 1);
        check.due("21 the third one is wrong", x.rightSamples(0, 3), 2);
        check.due("21 the fourth one is wrong", x.rightSamples(0, 4), 3);
        x.makeFilter(5);
        check.due("21 of 1, 1, 1, 1 with 1, 0, 0, 0", x.rightSamples(1, 0), 1);
        check.due("21 its own too", x.rightSamples(1, 5), 6);
        check.due("22 barred or not", x.isChecked(0), true);
        check.due("22 the other", x.isChecked(1), true);
    }

    private static void setLimit() {
        EchoChamber x = inUse();
        check.due("23 at first", x.setLimit(0), 24);
        check.due("23 the lowest", x.setLimit(999), 0);
        check.due("23 the highest", x.setLimit(7), 999);
        for (int limit : new int[] {-1, 1000, FAR[0], FAR[1]}) {
            check.refused("23 limit " + limit, BAD, FiltersTest::inUse, e -> e.setLimit(limit));
        }
        x.setLimit(0);
        check.due("23 the lowest bars no new answer", x.bar(0), '-');
        x.pass(1);
        check.due("23 but an older one", x.bar(0), 'o');
    }

    private static void usable() {
        EchoChamber x = new EchoChamber();
        x.addRoom();
        x.measure(0, 0, 1, 0, 0, 0);
        check.due("24 none", x.usable(), 0);
        check.refused("31 none", NONE, FiltersTest::withoutFilters, e -> e.usableShare());
        x.makeFilter(0);
        check.due("24 one", x.usable(), 1);
        check.due("31 all", x.usableShare(), 1.0f);
        x.measure(0, 0, 1, 0, 0, 0);
        check.due("24 none of one", x.usable(), 0);
        check.due("31 none of one", x.usableShare(), 0.0f);
        x.makeFilter(1);
        x.makeFilter(1);
        check.due("24 two of three", x.usable(), 2);
        check.due("31 two of three", x.usableShare(), 2.0f / 3.0f);
        x.makeFilter(0);
        x.makeFilter(0);
        x.makeFilter(0);
        x.makeFilter(0);
        check.due("31 two of seven", x.usableShare(), 2.0f / 7.0f);
        x.setState(0, 1, 1, true);
        check.due("24 in another state", x.usable(), 0);
        x.setState(0, 0, 0, false);
        x.setLimit(11);
        check.due("24 too old", x.usable(), 0);
    }

    private static EchoChamber withoutFilters() {
        EchoChamber x = new EchoChamber();
        x.addRoom();
        x.measure(0, 0, 1, 0, 0, 0);
        return x;
    }
}
