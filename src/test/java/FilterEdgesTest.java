/** The edges of promises 14 to 24. */
public final class FilterEdgesTest {
    private static final ByPromise edges = new ByPromise(new Check("FilterEdgesTest"));

    public static void main(String[] args) {
        edges.runAll(FilterEdgesTest.class, 14, 24);
    }

    /** Filter 0 is barred as its room has another state. */
    private static EchoChamber inOtherState(int filters) {
        EchoChamber x = Scenes.filters(filters);
        x.setState(0, 0, 0, true);
        return x;
    }

    /** Filter 0 is barred as its answer is not the latest one. */
    private static EchoChamber notTheLatest(int filters) {
        EchoChamber x = Scenes.filters(filters);
        x.measure(0, 0, 1, 0, 0, 0);
        return x;
    }

    /** Filter 0 is barred as its answer is one hour too old. */
    private static EchoChamber tooOld(int filters) {
        EchoChamber x = Scenes.filters(filters);
        x.setLimit(1);
        return x;
    }

    /** One filter for these samples, that has got no input. */
    private static EchoChamber undoing(int first, int second, int third, int fourth) {
        EchoChamber x = new EchoChamber();
        x.addRoom();
        x.measure(0, 0, first, second, third, fourth);
        x.makeFilter(0);
        return x;
    }

    // Promise 14: makeFilter

    @Says("Throws `IndexOutOfBoundsException` if there is no such answer")
    static void p14_noSuchAnswer() {
        edges.noSuchAnswer((x, answer) -> x.makeFilter(answer));
    }

    static void p14_theFirstAndTheLastOfFortyAnswers() {
        EchoChamber x = Scenes.answers(40);
        edges.due("of the first", x.answerOf(x.makeFilter(0)), 0);
        edges.due("of the last", x.answerOf(x.makeFilter(39)), 39);
    }

    @Says({
        "Makes a filter from an answer.",
        "Returns the number of the filter.",
        "At most 20 filters have the numbers 0 to n - 1 in the order in .."})
    static void p14_twentyFiltersAreMade() {
        EchoChamber x = Scenes.filters(0);
        for (int i = 0; i < 20; i++) {
            edges.due("number", x.makeFilter(i % 2), i);
        }
    }

    @Says({
        "Throws `IllegalStateException` if there are 20 filters",
        "At most 20 filters have the numbers 0 to n - 1 in the order in .."})
    static void p14_oneMoreThanTwentyIsRefused() {
        edges.refused(ByPromise.STATE, Scenes::filters, 20, (x, answer) -> x.makeFilter(answer), 0, 1);
    }

    @Says("If several exceptions apply, the one that is listed first is thrown.")
    static void p14_noAnswerAheadOfTwentyFilters() {
        edges.refused(ByPromise.NO_SUCH, Scenes::filters, 20, (x, answer) -> x.makeFilter(answer),
                ByPromise.outside(0, 1));
    }

    static void p14_aFilterIsMadeFromAnAnswerThatBarsItsUse() {
        for (int i = 0; i < 3; i++) {
            EchoChamber x = i == 0 ? inOtherState(1) : i == 1 ? notTheLatest(1) : tooOld(1);
            edges.due("number", x.makeFilter(0), 1);
            edges.due("bar", x.bar(1), "slo".charAt(i));
        }
    }

    // Promise 15: answerOf

    @Says("Throws `IndexOutOfBoundsException` if there is no such filter")
    static void p15_noSuchFilter() {
        edges.noSuchFilter((x, filter) -> x.answerOf(filter));
    }

    static void p15_theFirstAndTheLastOfTwentyFilters() {
        EchoChamber x = Scenes.filters(20);
        edges.due("first", x.answerOf(0), 0);
        edges.due("last", x.answerOf(19), 1);
    }

    // Promise 16: tap

    @Says("Throws `IndexOutOfBoundsException` if there is no such filter")
    static void p16_noSuchFilter() {
        edges.noSuchFilter((x, filter) -> x.tap(filter, 0));
    }

    static void p16_theLastOfTwentyFilters() {
        EchoChamber x = Scenes.filters(20);
        edges.due("first tap", x.tap(19, 0), -1L);
        edges.due("last tap", x.tap(19, 5), -486L);
    }

    @Says({
        "Returns a tap of a filter.",
        "Returns the tap."})
    static void p16_theIndexes0To5() {
        long[] taps = {1, -2, 5, -12, 29, -70};
        for (int index = 0; index < 6; index++) {
            edges.due("index " + index, Scenes.filters(1).tap(0, index), taps[index]);
        }
    }

    @Says({
        "Throws `NoSuchElementException` if there is no such index",
        "A filter is made from an answer and has 6 taps: the first tap is .."})
    static void p16_noSuchIndex() {
        edges.refused(ByPromise.NONE, Scenes::filters, 20, (x, index) -> x.tap(19, index), ByPromise.outside(0, 5));
    }

    @Says("If several exceptions apply, the one that is listed first is thrown.")
    static void p16_noFilterAheadOfNoIndex() {
        edges.refused(ByPromise.NO_SUCH, Scenes::filters, 0, (x, index) -> x.tap(0, index), ByPromise.outside(0, 5));
        edges.refused(ByPromise.NO_SUCH, Scenes::filters, 20, (x, index) -> x.tap(20, index), ByPromise.outside(0, 5));
        edges.refused(ByPromise.NO_SUCH, Scenes::filters, 20, (x, index) -> x.tap(-1, index), ByPromise.outside(0, 5));
    }

    static void p16_theTapsOfTheGreatestSamples() {
        dueTaps(undoing(1, 9, 9, 9), 1, -9, 72, -576, 4617, -37017);
        dueTaps(undoing(1, -9, -9, -9), 1, 9, 90, 900, 8991, 89829);
        dueTaps(undoing(-1, 9, 9, 9), -1, -9, -90, -900, -8991, -89829);
        dueTaps(undoing(-1, -9, -9, -9), -1, 9, -72, 576, -4617, 37017);
        dueTaps(undoing(1, -9, 9, -9), 1, 9, 72, 576, 4617, 37017);
    }

    static void p16_theFirstTapsMissTheTapsAheadOfThem() {
        dueTaps(undoing(1, 0, 0, 9), 1, 0, 0, -9, 0, 0);
        dueTaps(undoing(-1, 0, 9, 0), -1, 0, -9, 0, -81, 0);
        dueTaps(undoing(-1, 1, 0, 0), -1, -1, -1, -1, -1, -1);
        dueTaps(undoing(1, 0, 0, 0), 1, 0, 0, 0, 0, 0);
    }

    private static void dueTaps(EchoChamber x, long... taps) {
        for (int index = 0; index < 6; index++) {
            edges.due("tap " + index, x.tap(0, index), taps[index]);
        }
    }

    // Promise 17: bar

    @Says("Throws `IndexOutOfBoundsException` if there is no such filter")
    static void p17_noSuchFilter() {
        edges.noSuchFilter((x, filter) -> x.bar(filter));
    }

    static void p17_theLastOfTwentyFilters() {
        EchoChamber x = Scenes.filters(20);
        x.measure(0, 9, 1, 0, 0, 0);
        edges.due("filter 18", x.bar(18), '-');
        edges.due("filter 19", x.bar(19), 'l');
    }

    @Says("The bars of a use of a filter are, in this order: 's' if its room ..")
    static void p17_anAgeOfTheLimitIsNoBar() {
        EchoChamber x = Scenes.filters(1);
        x.cancel(0);
        x.pass(22);
        edges.due("age", x.age(0), 24);
        edges.due("bar", x.bar(0), '-');
    }

    @Says("The bars of a use of a filter are, in this order: 's' if its room ..")
    static void p17_anAgeAboveTheLimitIsABar() {
        EchoChamber x = Scenes.filters(1);
        x.cancel(0);
        x.pass(23);
        edges.due("age", x.age(0), 25);
        edges.due("bar", x.bar(0), 'o');
    }

    static void p17_theLimitsAt0AndAt999() {
        EchoChamber x = undoing(1, 0, 0, 0);
        x.setLimit(0);
        edges.due("age 0, limit 0", x.bar(0), '-');
        x.pass(1);
        edges.due("age 1, limit 0", x.bar(0), 'o');
        x.setLimit(999);
        Scenes.passTo(x, 999);
        edges.due("age 999, limit 999", x.bar(0), '-');
        x.pass(1);
        edges.due("age 1000, limit 999", x.bar(0), 'o');
    }

    @Says("The bars of a use of a filter are, in this order: 's' if its room ..")
    static void p17_onePartOfTheStateIsABar() {
        for (int parts = 0; parts < 8; parts++) {
            EchoChamber x = Scenes.filters(1);
            x.setState(0, parts & 1, parts >> 1 & 1, (parts & 4) != 0);
            edges.due("parts " + parts, x.bar(0), parts == 0 ? '-' : 's');
        }
    }

    static void p17_theStateOfTheRoomAloneCounts() {
        EchoChamber x = new EchoChamber();
        x.addRoom();
        x.addRoom();
        x.measure(1, 0, 1, 0, 0, 0);
        x.makeFilter(0);
        x.setState(0, 1, 1, true);
        edges.due("room 0 changes", x.bar(0), '-');
        x.setState(1, 1, 1, true);
        edges.due("room 1 changes", x.bar(0), 's');
    }

    @Says("The bars of a use of a filter are, in this order: 's' if its room ..")
    static void p17_aLaterAnswerOfAnotherRoomPlaceOrStateIsNoBar() {
        EchoChamber x = undoing(1, 0, 0, 0);
        x.addRoom();
        x.measure(1, 0, 1, 0, 0, 0);
        x.measure(0, 1, 1, 0, 0, 0);
        x.setState(0, 0, 0, true);
        x.measure(0, 0, 1, 0, 0, 0);
        x.setState(0, 0, 0, false);
        edges.due("bar", x.bar(0), '-');
        x.measure(0, 0, 1, 0, 0, 0);
        edges.due("bar of the very one", x.bar(0), 'l');
    }

    @Says({
        "Returns the first bar of a use of a filter.",
        "Returns 's', 'l' or 'o', or '-' if nothing bars it.",
        "The bars of a use of a filter are, in this order: 's' if its room .."})
    static void p17_theStateAheadOfTheLatestAheadOfTheAge() {
        for (int bars = 0; bars < 8; bars++) {
            EchoChamber x = undoing(1, 0, 0, 0);
            if ((bars & 2) != 0) {
                x.measure(0, 0, 1, 0, 0, 0);
            }
            if ((bars & 4) != 0) {
                x.pass(25);
            }
            x.setState(0, 0, bars & 1, false);
            char due = (bars & 1) != 0 ? 's' : (bars & 2) != 0 ? 'l' : (bars & 4) != 0 ? 'o' : '-';
            edges.due("bars " + bars, x.bar(0), due);
        }
    }

    // Promise 18: use

    @Says("Throws `IndexOutOfBoundsException` if there is no such filter")
    static void p18_noSuchFilter() {
        edges.noSuchFilter((x, filter) -> x.use(filter, 0));
    }

    static void p18_theLastOfTwentyFilters() {
        EchoChamber x = Scenes.filters(20);
        edges.due("gives", x.use(19, 0), -3L * 19);
        edges.due("inputs", x.inputs(19), 2);
        edges.due("the other's inputs", x.inputs(18), 1);
    }

    @Says("Throws `IllegalArgumentException` if the input is out of range")
    static void p18_inputsFromMinus999To999AreTaken() {
        edges.due("-999", undoing(1, 0, 0, 0).use(0, -999), -999L);
        edges.due("999", undoing(1, 0, 0, 0).use(0, 999), 999L);
        edges.due("0", undoing(1, 0, 0, 0).use(0, 0), 0L);
    }

    @Says("Throws `IllegalArgumentException` if the input is out of range")
    static void p18_otherInputsAreRefused() {
        edges.refused(ByPromise.BAD, Scenes::filters, 20, (x, input) -> x.use(19, input), ByPromise.outside(-999, 999));
    }

    @Says("Throws `UnsupportedOperationException` if a use is barred")
    static void p18_aUseInAnotherStateIsRefused() {
        edges.refused(ByPromise.BARRED, FilterEdgesTest::inOtherState, 1, (x, input) -> x.use(0, input), -999, 0, 999);
    }

    @Says("Throws `UnsupportedOperationException` if a use is barred")
    static void p18_aUseOfAnAnswerThatIsNotTheLatestIsRefused() {
        edges.refused(ByPromise.BARRED, FilterEdgesTest::notTheLatest, 1, (x, input) -> x.use(0, input), -999, 0, 999);
    }

    @Says("Throws `UnsupportedOperationException` if a use is barred")
    static void p18_aUseOfAnAnswerThatIsTooOldIsRefused() {
        edges.refused(ByPromise.BARRED, FilterEdgesTest::tooOld, 1, (x, input) -> x.use(0, input), -999, 0, 999);
    }

    static void p18_aUseAtTheLimitIsNotRefused() {
        EchoChamber x = tooOld(1);
        x.setLimit(2);
        edges.due("gives", x.use(0, 1), 1L);
    }

    @Says("If several exceptions apply, the one that is listed first is thrown.")
    static void p18_noFilterAheadOfABadInput() {
        edges.refused(ByPromise.NO_SUCH, Scenes::filters, 0, (x, input) -> x.use(0, input), -1000, 1000);
        edges.refused(ByPromise.NO_SUCH, Scenes::filters, 20, (x, input) -> x.use(20, input), -1000, 1000);
        edges.refused(ByPromise.NO_SUCH, Scenes::filters, 20, (x, input) -> x.use(-1, input), -1000, 1000);
    }

    @Says("If several exceptions apply, the one that is listed first is thrown.")
    static void p18_aBadInputAheadOfABar() {
        int[] inputs = ByPromise.outside(-999, 999);
        edges.refused(ByPromise.BAD, FilterEdgesTest::inOtherState, 1, (x, input) -> x.use(0, input), inputs);
        edges.refused(ByPromise.BAD, FilterEdgesTest::notTheLatest, 1, (x, input) -> x.use(0, input), inputs);
        edges.refused(ByPromise.BAD, FilterEdgesTest::tooOld, 1, (x, input) -> x.use(0, input), inputs);
    }

    @Says("A filter that is used gets an input: the inputs that it has got, ..")
    static void p18_withoutAPastThereAreZeros() {
        EchoChamber x = undoing(1, 2, -1, 0);
        edges.due("first", x.use(0, 1), 1L);
        edges.due("second", x.use(0, 1), -1L);
    }

    @Says({
        "Uses a filter.",
        "Returns what it gives.",
        "A filter that is used gets an input: the inputs that it has got, .."})
    static void p18_sixInputsCountAndTheSeventhNoMore() {
        EchoChamber x = undoing(1, 2, -1, 0);
        long[] given = {1, -2, 5, -12, 29, -70, 0, 0};
        for (int i = 0; i < given.length; i++) {
            edges.due("input " + i, x.use(0, i == 0 ? 1 : 0), given[i]);
        }
    }

    static void p18_theGreatestInputsOfTheGreatestTaps() {
        EchoChamber x = undoing(1, -9, -9, -9);
        EchoChamber y = undoing(-1, 9, 9, 9);
        long[] sums = {1, 10, 100, 1000, 9991, 99820, 99820};
        for (int i = 0; i < sums.length; i++) {
            edges.due("999, use " + i, x.use(0, 999), 999L * sums[i]);
            edges.due("999, negative taps, use " + i, y.use(0, 999), -999L * sums[i]);
        }
    }

    static void p18_aRefusedInputIsNotOfThePast() {
        EchoChamber x = undoing(1, 2, -1, 0);
        x.use(0, 1);
        Check.told(() -> x.use(0, 1000));
        x.setState(0, 1, 0, false);
        edges.due("barred", Check.told(() -> x.use(0, 500)), "throws.UnsupportedOperationException");
        x.setState(0, 0, 0, false);
        edges.due("the next one", x.use(0, 0), -2L);
    }

    // Promise 19: inputs

    @Says("Throws `IndexOutOfBoundsException` if there is no such filter")
    static void p19_noSuchFilter() {
        edges.noSuchFilter((x, filter) -> x.inputs(filter));
    }

    @Says("Returns how many inputs a filter has got.")
    static void p19_theLastOfTwentyFilters() {
        EchoChamber x = Scenes.filters(20);
        x.use(19, 1);
        edges.due("filter 19", x.inputs(19), 2);
        edges.due("filter 0", x.inputs(0), 1);
    }

    @Says({
        "Returns how many inputs a filter has got.",
        "Returns the number of inputs."})
    static void p19_noneAtFirstAndMoreThanThereAreTaps() {
        EchoChamber x = undoing(1, 2, -1, 0);
        for (int i = 0; i < 20; i++) {
            edges.due("inputs", x.inputs(0), i);
            x.use(0, 0);
        }
    }

    static void p19_refusedInputsAreNotCounted() {
        EchoChamber x = inOtherState(1);
        Check.told(() -> x.use(0, 1));
        Check.told(() -> x.use(0, 1000));
        edges.due("inputs", x.inputs(0), 1);
    }

    // Promise 20: product

    @Says("Throws `IndexOutOfBoundsException` if there is no such filter or answer")
    static void p20_noSuchFilter() {
        edges.noSuchFilter((x, filter) -> x.product(filter, 0, 0));
    }

    @Says("Throws `IndexOutOfBoundsException` if there is no such filter or answer")
    static void p20_noSuchAnswer() {
        for (int answers : new int[] {1, 39, 40}) {
            edges.refused(ByPromise.NO_SUCH, Scenes::answers, answers, (x, answer) -> x.product(0, answer, 0),
                    ByPromise.outside(0, answers - 1));
        }
    }

    @Says({
        "Throws `NoSuchElementException` if there is no such index",
        "The product row of a filter and an answer has 6 samples: the .."})
    static void p20_noSuchIndex() {
        edges.refused(ByPromise.NONE, Scenes::filters, 20, (x, index) -> x.product(19, 1, index),
                ByPromise.outside(0, 5));
    }

    @Says("If several exceptions apply, the one that is listed first is thrown.")
    static void p20_noFilterAheadOfNoIndex() {
        edges.refused(ByPromise.NO_SUCH, Scenes::filters, 20, (x, index) -> x.product(20, 0, index),
                ByPromise.outside(0, 5));
        edges.refused(ByPromise.NO_SUCH, Scenes::filters, 0, (x, index) -> x.product(0, 0, index),
                ByPromise.outside(0, 5));
    }

    @Says("If several exceptions apply, the one that is listed first is thrown.")
    static void p20_noAnswerAheadOfNoIndex() {
        edges.refused(ByPromise.NO_SUCH, Scenes::filters, 20, (x, index) -> x.product(0, 2, index),
                ByPromise.outside(0, 5));
        edges.refused(ByPromise.NO_SUCH, Scenes::filters, 20, (x, index) -> x.product(0, -1, index),
                ByPromise.outside(0, 5));
    }

    @Says({
        "Returns a sample of the product row of a filter and an answer.",
        "Returns the sample."})
    static void p20_theLastFilterAndTheLastAnswer() {
        EchoChamber x = Scenes.answers(40);
        for (int i = 0; i < 19; i++) {
            x.makeFilter(0);
        }
        long[] row = {-1, 9, -9, 0, 0, 0};
        for (int index = 0; index < 6; index++) {
            edges.due("index " + index, x.product(19, 39, index), row[index]);
        }
    }

    static void p20_theFirstSamplesMissTheTapsAheadOfThem() {
        EchoChamber x = undoing(1, 0, 0, 0);
        x.measure(0, 1, -1, 7, -8, 9);
        long[] row = {-1, 7, -8, 9, 0, 0};
        for (int index = 0; index < 6; index++) {
            edges.due("index " + index, x.product(0, 1, index), row[index]);
        }
    }

    static void p20_theGreatestSamples() {
        EchoChamber x = undoing(1, -9, -9, -9);
        x.measure(0, 1, 1, 9, 9, 9);
        long[] row = {1, 18, 180, 1800, 17982, 179658};
        for (int index = 0; index < 6; index++) {
            edges.due("index " + index, x.product(0, 1, index), row[index]);
        }
    }

    // Promise 21: rightSamples

    @Says("Throws `IndexOutOfBoundsException` if there is no such filter or answer")
    static void p21_noSuchFilter() {
        edges.noSuchFilter((x, filter) -> x.rightSamples(filter, 0));
    }

    @Says("Throws `IndexOutOfBoundsException` if there is no such filter or answer")
    static void p21_noSuchAnswer() {
        for (int answers : new int[] {1, 39, 40}) {
            edges.refused(ByPromise.NO_SUCH, Scenes::answers, answers, (x, answer) -> x.rightSamples(0, answer),
                    ByPromise.outside(0, answers - 1));
        }
    }

    static void p21_noFilterAndNoAnswer() {
        edges.refused(ByPromise.NO_SUCH, Scenes::filters, 20, (x, both) -> x.rightSamples(both, both), -1, 20);
    }

    @Says("Returns how many samples of the product row of a filter and an ..")
    static void p21_noneIfTheFirstIsWrong() {
        EchoChamber x = undoing(1, 0, 0, 0);
        x.measure(0, 1, -1, 0, 0, 0);
        edges.due("right samples", x.rightSamples(0, 1), 0);
    }

    @Says("Returns how many samples of the product row of a filter and an ..")
    static void p21_thoseAheadOfTheFirstWrongOne() {
        EchoChamber x = undoing(1, 0, 0, 0);
        x.measure(0, 1, 1, 1, 0, 0);
        x.measure(0, 1, 1, 0, -1, 0);
        x.measure(0, 1, 1, 0, 0, 9);
        for (int answer = 1; answer <= 3; answer++) {
            edges.due("answer " + answer, x.rightSamples(0, answer), answer);
        }
    }

    @Says("Returns the number of samples, 6 if all are.")
    static void p21_allSixOfItsOwnAndOfAnEqualAnswer() {
        EchoChamber x = undoing(-1, -9, 9, -9);
        x.measure(0, 1, -1, -9, 9, -9);
        edges.due("its own", x.rightSamples(0, 0), 6);
        edges.due("an equal one", x.rightSamples(0, 1), 6);
    }

    static void p21_theLastOfTwentyFiltersAndOfFortyAnswers() {
        EchoChamber x = Scenes.answers(40);
        for (int i = 0; i < 19; i++) {
            x.makeFilter(0);
        }
        edges.due("wrong", x.rightSamples(19, 39), 0);
        edges.due("right", x.rightSamples(19, 10), 6);
        edges.due("filter 0", x.rightSamples(0, 39), 6);
    }

    // Promise 22: isChecked

    @Says("Throws `IndexOutOfBoundsException` if there is no such filter")
    static void p22_noSuchFilter() {
        edges.noSuchFilter((x, filter) -> x.isChecked(filter));
    }

    @Says("Tells whether the product row of a filter and its own answer is as it should be.")
    static void p22_theLastOfTwentyFilters() {
        edges.due("first", Scenes.filters(20).isChecked(0), true);
        edges.due("last", Scenes.filters(20).isChecked(19), true);
    }

    @Says({
        "Tells whether the product row of a filter and its own answer is as it should be.",
        "Returns true if so."})
    static void p22_filtersOfTheLeastAndTheGreatestSamples() {
        for (int signs = 0; signs < 16; signs++) {
            EchoChamber x = undoing(1 - (signs & 1) * 2, 9 - (signs >> 1 & 1) * 18, 9 - (signs >> 2 & 1) * 18,
                    9 - (signs >> 3) * 18);
            edges.due("signs " + signs, x.isChecked(0), true);
        }
    }

    @Says("Tells whether the product row of a filter and its own answer is as it should be.")
    static void p22_aBarredFilterIsCheckedToo() {
        edges.due("state", inOtherState(1).isChecked(0), true);
        edges.due("latest", notTheLatest(1).isChecked(0), true);
        edges.due("age", tooOld(1).isChecked(0), true);
    }

    // Promise 23: setLimit

    @Says("Returns the limit before.")
    static void p23_limitsFrom0To999AreTaken() {
        EchoChamber x = Scenes.filters(1);
        edges.due("at first", x.setLimit(0), 24);
        edges.due("the least", x.setLimit(999), 0);
        edges.due("the greatest", x.setLimit(999), 999);
    }

    @Says("Throws `IllegalArgumentException` if it is not between 0 and 999")
    static void p23_otherLimitsAreRefused() {
        edges.refused(ByPromise.BAD, Scenes::filters, 2, (x, limit) -> x.setLimit(limit), ByPromise.outside(0, 999));
    }

    static void p23_aRefusedLimitLeavesTheOneBefore() {
        EchoChamber x = Scenes.filters(1);
        x.setLimit(2);
        Check.told(() -> x.setLimit(1000));
        Check.told(() -> x.setLimit(-1));
        edges.due("bar", x.bar(0), '-');
        edges.due("limit", x.setLimit(1), 2);
        edges.due("bar then", x.bar(0), 'o');
    }

    // Promise 24: usable

    @Says("Returns the number of filters.")
    static void p24_noneWithoutFilters() {
        edges.due("without rooms", new EchoChamber().usable(), 0);
        edges.due("with answers", Scenes.filters(0).usable(), 0);
    }

    @Says({
        "Returns the number of filters of which a use is not barred.",
        "Returns the number of filters."})
    static void p24_allOfTwenty() {
        edges.due("usable", Scenes.filters(20).usable(), 20);
    }

    @Says("Returns the number of filters of which a use is not barred.")
    static void p24_noneOfTwenty() {
        edges.due("state", inOtherState(20).usable(), 0);
        edges.due("age", tooOld(20).usable(), 0);
    }

    @Says("Returns the number of filters of which a use is not barred.")
    static void p24_halfOfTwenty() {
        edges.due("latest", notTheLatest(20).usable(), 10);
    }

    @Says("Returns the number of filters of which a use is not barred.")
    static void p24_anAgeOfTheLimitIsUsable() {
        EchoChamber x = Scenes.filters(20);
        x.setLimit(2);
        edges.due("at the limit", x.usable(), 20);
        x.pass(1);
        edges.due("above it", x.usable(), 0);
    }
}
