import java.util.function.Supplier;

/** The edges of observers and their readings: their terms, and promises 15 to 22. */
final class ObserversEdges {
    /** A fire for each shade, without damp. */
    private static final int[] FIRES = {0, 1, 3, 5, 7, 9};

    private ObserversEdges() {
    }

    static void all(Edges e) {
        terms(e);
        watchedBy(e);
        tirednessOf(e);
        wouldRead(e);
        readingOf(e);
        readingsFrom(e);
        longestRow(e);
        errorsOf(e);
        bestObserver(e);
    }

    private static void terms(Edges e) {
        e.in("Chimneys");
        e.holds("There are 3 observers, 0 to 2,",
                () -> e.range(0, 2, Edges.NO_SUCH, (x, value) -> x.tirednessOf(value)));
        e.holds("each with a bias, -1 to 1 (0 at first),", () -> biases(e));
        e.holds("and a tiredness, 0 at first;", () -> freshAtFirst(e));
        e.holds("each watches a chimney, or rests (all rest, at first).", () -> restAtFirst(e));
        e.holds("An observer who watches reads the shade of the chimney in a tick so: the shade and the bias, "
                + "together, and 1 less if the tiredness is 12 or more,", () -> tiredEyes(e));
        e.holds("held to 0 to 5;", () -> heldReadings(e));
        e.holds("but 0, if the grey of the hour is 3 or more,", () -> greyOfTheHour(e));
        e.holds("and the shade 2 or less.", () -> hiddenShades(e));
    }

    private static void biases(Edges e) {
        e.range(-1, 1, Edges.OUT_OF_RANGE, (x, value) -> x.setBias(2, value));
        ShadeCards cards = new ShadeCards();
        for (int observer = 0; observer < 3; observer++) {
            e.same("at first, of " + observer, 2, cards.wouldRead(observer, 0));
        }
    }

    private static void freshAtFirst(Edges e) {
        ShadeCards cards = Scenes.watched();
        for (int observer = 0; observer < 3; observer++) {
            e.same("at first, of " + observer, 0, cards.tirednessOf(observer));
        }
        cards.pass(12);
        e.same("twelve readings by fresh eyes", 12, cards.readingsFrom(0, 5));
        cards.pass(1);
        e.same("and no more", 12, cards.readingsFrom(0, 5));
    }

    private static void restAtFirst(Edges e) {
        ShadeCards cards = new ShadeCards();
        cards.pass(1);
        for (int observer = 0; observer < 3; observer++) {
            e.same("at first, " + observer, -1, cards.watchedBy(observer));
        }
        for (int chimney = 0; chimney < 8; chimney++) {
            e.same("nobody has read " + chimney, -1, cards.readingOf(chimney, 0));
        }
    }

    private static void tiredEyes(Edges e) {
        ShadeCards cards = Scenes.watched();
        cards.setChimney(4, 5, 0, 2, 0);
        cards.pass(10);
        e.same("tiredness 10, of a shade of 3", 3, cards.wouldRead(0, 4));
        cards.pass(1);
        e.same("tiredness 11, of a shade of 2", 2, cards.wouldRead(0, 4));
        cards.pass(1);
        e.same("tiredness 12, of a shade of 3", 2, cards.wouldRead(0, 4));
        cards.pass(1);
        e.same("tiredness 13, of a shade of 2", 1, cards.wouldRead(0, 4));
        cards.pass(1);
        e.same("tiredness 14, of a shade of 3", 2, cards.wouldRead(0, 4));
        cards.setBias(0, 1);
        e.same("a bias makes up for it", 3, cards.wouldRead(0, 4));
        cards.setBias(0, -1);
        e.same("a bias adds to it", 1, cards.wouldRead(0, 4));
        cards.pass(200);
        e.same("much tireder, but just 1 less", 1, cards.wouldRead(0, 4));
    }

    private static void heldReadings(Edges e) {
        ShadeCards cards = new ShadeCards();
        cards.setChimney(0, 9, 0, 2, 0);
        cards.setChimney(1, 7, 0, 2, 0);
        cards.setChimney(2, 0, 0, 2, 0);
        cards.setChimney(3, 1, 0, 2, 0);
        cards.setBias(0, 1);
        cards.setBias(1, -1);
        e.same("5 and 1", 5, cards.wouldRead(0, 0));
        e.same("4 and 1", 5, cards.wouldRead(0, 1));
        e.same("0 and 1", 1, cards.wouldRead(0, 2));
        e.same("0 less 1", 0, cards.wouldRead(1, 2));
        e.same("1 less 1", 0, cards.wouldRead(1, 3));
        cards.watch(0, 0);
        cards.watch(1, 0);
        cards.watch(2, 0);
        cards.pass(12);
        e.same("5 and 1 less 1: held at last alone", 5, cards.wouldRead(0, 0));
        e.same("0 and 1 less 1", 0, cards.wouldRead(0, 2));
        e.same("0 less 1 less 1", 0, cards.wouldRead(1, 2));
        e.same("1 less 1 less 1", 0, cards.wouldRead(1, 3));
        e.same("0 less 1, tired", 0, cards.wouldRead(2, 2));
    }

    private static void greyOfTheHour(Edges e) {
        for (int grey = 0; grey <= 4; grey++) {
            ShadeCards cards = new ShadeCards();
            cards.setGrey(0, grey);
            e.same("a shade of 2, grey " + grey, grey < 3 ? 2 : 0, cards.wouldRead(0, 0));
            cards.watch(0, 0);
            cards.pass(1);
            e.same("read of a shade of 2, grey " + grey, grey < 3 ? 2 : 0, cards.readingOf(0, 0));
        }
        ShadeCards next = new ShadeCards();
        next.setGrey(1, 4);
        next.watch(0, 3);
        next.pass(8);
        e.same("the last tick of the hour ahead", 2, next.readingOf(3, 3));
        e.same("the last tick of the grey hour", 0, next.readingOf(3, 7));
    }

    private static void hiddenShades(Edges e) {
        int[] due = {0, 0, 0, 3, 4, 5};
        for (int shade = 0; shade <= 5; shade++) {
            for (int grey = 3; grey <= 4; grey++) {
                ShadeCards cards = new ShadeCards();
                cards.setChimney(0, FIRES[shade], 0, 2, 0);
                cards.setGrey(0, grey);
                e.same("a shade of " + shade + ", grey " + grey, due[shade], cards.wouldRead(0, 0));
            }
        }
        ShadeCards biased = new ShadeCards();
        biased.setGrey(0, 3);
        biased.setChimney(1, 5, 0, 2, 0);
        biased.setBias(0, 1);
        biased.setBias(1, -1);
        e.same("the shade 2, although 3 would be read", 0, biased.wouldRead(0, 0));
        e.same("the shade 3, although 2 is read", 2, biased.wouldRead(1, 1));
    }

    private static void watchedBy(Edges e) {
        e.in("Promise 15: watchedBy");
        e.holds("Returns the chimney that an observer watches, NONE if none.", () -> firstAndLastWatched(e));
        e.holds("Throws IndexOutOfBoundsException if there is no such observer",
                () -> e.range(0, 2, Edges.NO_SUCH, (x, value) -> x.watchedBy(value)));
    }

    private static void firstAndLastWatched(Edges e) {
        ShadeCards cards = new ShadeCards();
        e.same("rests", -1, cards.watchedBy(0));
        cards.watch(0, 0);
        cards.watch(2, 7);
        e.same("the first chimney", 0, cards.watchedBy(0));
        e.same("rests, between two who watch", -1, cards.watchedBy(1));
        e.same("the last chimney", 7, cards.watchedBy(2));
        cards.watch(2, -1);
        e.same("rests again", -1, cards.watchedBy(2));
    }

    private static void tirednessOf(Edges e) {
        e.in("Promise 16: tirednessOf");
        e.holds("Returns the tiredness of an observer.", () -> tirednessAsItGrows(e));
        e.holds("Throws IndexOutOfBoundsException if there is no such observer",
                () -> e.range(0, 2, Edges.NO_SUCH, (x, value) -> x.tirednessOf(value)));
    }

    private static void tirednessAsItGrows(Edges e) {
        ShadeCards cards = new ShadeCards();
        cards.watch(2, 7);
        e.same("ahead of the first tick", 0, cards.tirednessOf(2));
        cards.pass(1);
        e.same("behind it", 1, cards.tirednessOf(2));
        cards.pass(95);
        e.same("a new day is no rest", 96, cards.tirednessOf(2));
        e.same("the first observer, who rests", 0, cards.tirednessOf(0));
        cards.undo();
        e.same("undone", 1, cards.tirednessOf(2));
    }

    private static void wouldRead(Edges e) {
        e.in("Promise 17: wouldRead");
        e.holds("Returns what an observer would read of a chimney in the tick at hand.", () -> wouldReadAtHand(e));
        e.holds("Throws IndexOutOfBoundsException if there is no such observer or chimney", () -> {
            e.range(0, 2, Edges.NO_SUCH, (x, value) -> x.wouldRead(value, 7));
            e.range(0, 7, Edges.NO_SUCH, (x, value) -> x.wouldRead(2, value));
            e.refuses("neither there", Edges.NO_SUCH, x -> x.wouldRead(3, 8));
            e.refuses("neither there", Edges.NO_SUCH, x -> x.wouldRead(-1, -1));
        });
    }

    private static void wouldReadAtHand(Edges e) {
        ShadeCards cards = new ShadeCards();
        cards.setChimney(7, 9, 0, 12, 11);
        cards.setGrey(23, 3);
        cards.pass(94);
        e.same("the last tick but one, stoked 11 ago", 0, cards.wouldRead(2, 7));
        e.same("grey in the last hour", 0, cards.wouldRead(2, 2));
        cards.pass(1);
        e.same("the last tick, stoked in it", 5, cards.wouldRead(2, 7));
        e.same("it was not read", -1, cards.readingOf(7, 95));
        cards.pass(1);
        e.same("the first tick, ahead of the stoking", 0, cards.wouldRead(2, 7));
        e.same("clear in the first hour", 2, cards.wouldRead(2, 0));
        cards.watch(2, 0);
        cards.pass(1);
        e.same("read as it would be", 2, cards.readingOf(0, 0));
    }

    private static void readingOf(Edges e) {
        e.in("Promise 18: readingOf");
        e.holds("Returns the reading of a chimney in a tick of the day at hand;", () -> readingsOfTheDay(e));
        e.holds("NONE if it has none.", () -> noReading(e));
        e.holds("tick: 0 to 95", () -> firstAndLastReading(e));
        e.holds("Throws IndexOutOfBoundsException if there is no such chimney",
                () -> e.range(0, 7, Edges.NO_SUCH, (x, value) -> x.readingOf(value, 0)));
        e.holds("Throws IllegalArgumentException if tick is out of range",
                () -> e.range(0, 95, Edges.OUT_OF_RANGE, (x, value) -> x.readingOf(7, value)));
    }

    private static void readingsOfTheDay(Edges e) {
        ShadeCards cards = Scenes.watching(5, 8);
        Scenes.smoke(cards, 3, 0, 5);
        int[] due = {3, 0, 5, -1};
        for (int tick = 0; tick < due.length; tick++) {
            e.same("tick " + tick, due[tick], cards.readingOf(0, tick));
        }
        cards.watch(0, -1);
        cards.pass(93);
        e.same("of the day at hand alone", -1, cards.readingOf(0, 0));
        cards.undo();
        e.same("back in its day", 3, cards.readingOf(0, 0));
    }

    private static void noReading(Edges e) {
        ShadeCards cards = new ShadeCards();
        cards.watch(0, 1);
        e.same("ahead of its tick", -1, cards.readingOf(1, 0));
        cards.pass(1);
        e.same("a reading of 0 is one", 0, cards.readingOf(1, 0));
        e.same("the tick at hand has none", -1, cards.readingOf(1, 1));
        e.same("a chimney that nobody watches", -1, cards.readingOf(0, 0));
    }

    private static void firstAndLastReading(Edges e) {
        ShadeCards cards = new ShadeCards();
        cards.pass(94);
        cards.watch(0, 7);
        cards.pass(1);
        e.same("the first tick", -1, cards.readingOf(7, 0));
        e.same("the last tick but one", 0, cards.readingOf(7, 94));
        e.same("the last tick, at hand", -1, cards.readingOf(7, 95));
        cards.pass(2);
        e.same("the first tick of the next day", 0, cards.readingOf(7, 0));
        e.same("the last tick goes with its day", -1, cards.readingOf(7, 95));
    }

    private static void readingsFrom(Edges e) {
        e.in("Promise 19: readingsFrom");
        e.holds("Returns how many readings of a chimney are a limit or more, on the day at hand.",
                () -> countedReadings(e));
        e.holds("limit: 0 to 5", () -> eachLimit(e));
        e.holds("Throws IndexOutOfBoundsException if there is no such chimney",
                () -> e.range(0, 7, Edges.NO_SUCH, (x, value) -> x.readingsFrom(value, 0)));
        e.holds("Throws IllegalArgumentException if limit is out of range",
                () -> e.range(0, 5, Edges.OUT_OF_RANGE, (x, value) -> x.readingsFrom(7, value)));
    }

    private static void countedReadings(Edges e) {
        ShadeCards cards = Scenes.watched();
        e.same("none", 0, cards.readingsFrom(0, 0));
        cards.pass(1);
        e.same("the first", 1, cards.readingsFrom(0, 0));
        cards.pass(94);
        e.same("the last but one of the day", 95, cards.readingsFrom(0, 0));
        cards.pass(1);
        e.same("a new day", 0, cards.readingsFrom(0, 0));
        cards.pass(1);
        e.same("its first", 1, cards.readingsFrom(0, 0));
        e.same("of another chimney", 0, cards.readingsFrom(7, 0));
    }

    private static void eachLimit(Edges e) {
        ShadeCards cards = Scenes.watching(5, 8);
        Scenes.smoke(cards, 0, 1, 2, 3, 4, 5);
        for (int limit = 0; limit <= 5; limit++) {
            e.same("from " + limit, 6 - limit, cards.readingsFrom(0, limit));
        }
        ShadeCards zeros = Scenes.watching(5, 8);
        Scenes.smoke(zeros, 0, 0);
        e.same("readings of 0, from 0", 2, zeros.readingsFrom(0, 0));
        e.same("readings of 0, from 1", 0, zeros.readingsFrom(0, 1));
    }

    private static void longestRow(Edges e) {
        e.in("Promise 20: longestRow");
        e.holds("Returns the longest row of ticks one behind the other,", () -> rowsOfTicks(e));
        e.holds("on the day at hand,", () -> rowsOfTheDay(e));
        e.holds("in each of which the reading of a chimney is a limit or more.", () -> rowsFromALimit(e));
        e.holds("limit: 0 to 5", () -> {
            for (boolean byRows : Edges.WAYS) {
                e.range(0, 5, Edges.OUT_OF_RANGE, (x, value) -> x.longestRow(2, value, byRows));
            }
        });
        e.holds("byRows: false: told by going on from tick to tick; true: told by trying all rows (the same)",
                () -> bothWays(e));
        e.holds("Throws IndexOutOfBoundsException if there is no such chimney", () -> {
            for (boolean byRows : Edges.WAYS) {
                e.range(0, 7, Edges.NO_SUCH, (x, value) -> x.longestRow(value, 0, byRows));
            }
        });
        e.holds("Throws IllegalArgumentException if limit is out of range", () -> {
            for (boolean byRows : Edges.WAYS) {
                e.range(0, 5, Edges.OUT_OF_RANGE, (x, value) -> x.longestRow(7, value, byRows));
            }
        });
    }

    private static void rowsOfTicks(Edges e) {
        for (boolean byRows : Edges.WAYS) {
            ShadeCards cards = Scenes.watching(5, 8);
            e.same("none", 0, cards.longestRow(0, 0, byRows));
            Scenes.smoke(cards, 4);
            e.same("one", 1, cards.longestRow(0, 3, byRows));
            Scenes.smoke(cards, 4, 0, 4);
            e.same("the first row is the longest", 2, cards.longestRow(0, 3, byRows));
            Scenes.smoke(cards, 4, 4);
            e.same("the last row is the longest", 3, cards.longestRow(0, 3, byRows));
            cards.watch(0, -1);
            cards.pass(1);
            cards.watch(0, 0);
            Scenes.smoke(cards, 4, 4);
            e.same("a tick without a reading breaks a row", 6, cards.longestRow(0, 0, byRows));
            e.same("of another chimney", 0, cards.longestRow(7, 0, byRows));
        }
    }

    private static void rowsOfTheDay(Edges e) {
        for (boolean byRows : Edges.WAYS) {
            ShadeCards cards = Scenes.watched();
            cards.pass(95);
            e.same("all ticks but the last", 95, cards.longestRow(0, 0, byRows));
            cards.pass(1);
            e.same("a new day", 0, cards.longestRow(0, 0, byRows));
            cards.pass(2);
            e.same("its first two", 2, cards.longestRow(0, 0, byRows));
            ShadeCards late = Scenes.hot();
            late.pass(92);
            late.watch(0, 0);
            late.pass(3);
            e.same("up to the tick at hand", 3, late.longestRow(0, 5, byRows));
        }
    }

    private static void rowsFromALimit(Edges e) {
        int[] due = {6, 5, 4, 3, 2, 1};
        for (boolean byRows : Edges.WAYS) {
            ShadeCards cards = Scenes.watching(5, 8);
            Scenes.smoke(cards, 0, 1, 2, 3, 4, 5);
            for (int limit = 0; limit <= 5; limit++) {
                e.same("from " + limit, due[limit], cards.longestRow(0, limit, byRows));
            }
        }
    }

    private static void bothWays(Edges e) {
        for (int pattern = 0; pattern < 64; pattern++) {
            ShadeCards cards = Scenes.watching(5, 8);
            int longest = 0;
            int row = 0;
            for (int tick = 0; tick < 6; tick++) {
                boolean smokes = (pattern >> tick & 1) == 1;
                Scenes.smoke(cards, smokes ? 3 : 2);
                row = smokes ? row + 1 : 0;
                longest = Math.max(longest, row);
            }
            e.same("by ticks, pattern " + pattern, longest, cards.longestRow(0, 3, false));
            e.same("by rows, pattern " + pattern, longest, cards.longestRow(0, 3, true));
        }
    }

    private static void errorsOf(Edges e) {
        e.in("Promise 21: errorsOf");
        e.holds("Returns by how much readings of an observer differed from shades so far, together (without sign).",
                () -> errorsOfBothSigns(e));
        e.holds("Throws IndexOutOfBoundsException if there is no such observer",
                () -> e.range(0, 2, Edges.NO_SUCH, (x, value) -> x.errorsOf(value)));
    }

    private static void errorsOfBothSigns(Edges e) {
        ShadeCards cards = Scenes.watching(5, 8);
        cards.setBias(0, 1);
        Scenes.smoke(cards, 3);
        e.same("one more", 1, cards.errorsOf(0));
        cards.setBias(0, -1);
        Scenes.smoke(cards, 3);
        e.same("and one less", 2, cards.errorsOf(0));
        Scenes.smoke(cards, 0);
        e.same("held to 0: none", 2, cards.errorsOf(0));
        cards.setGrey(0, 3);
        Scenes.smoke(cards, 2);
        e.same("2 hidden", 4, cards.errorsOf(0));
        cards.setBias(2, 0);
        cards.watch(2, 0);
        Scenes.smoke(cards, 4);
        e.same("each observer has his own", 5, cards.errorsOf(0));
        e.same("though the reading is the other's", 0, cards.errorsOf(2));
        cards.watch(0, -1);
        cards.watch(2, -1);
        cards.pass(91);
        e.same("a new day, and nobody reads", 5, cards.errorsOf(0));
        e.same("who never read", 0, cards.errorsOf(1));
    }

    private static void bestObserver(Edges e) {
        e.in("Promise 22: bestObserver");
        e.holds("Returns the observer with the least errors for each reading: errors divided by readings are compared "
                + "exactly;", () -> comparedExactly(e));
        e.holds("those without readings are left out;", () -> withoutReadings(e));
        e.holds("of several the lowest;", () -> theLowestOfSeveral(e));
        e.holds("NONE if there is none.", () -> e.same("a new object", -1, new ShadeCards().bestObserver()));
    }

    /** Lets an observer alone read chimney 0 in some ticks, with one error in each of the first of them. */
    private static void letRead(ShadeCards cards, int observer, int readings, int errors) {
        cards.watch(observer, 0);
        if (errors > 0) {
            cards.setBias(observer, -1);
            cards.pass(errors);
            cards.setBias(observer, 0);
        }
        if (readings > errors) {
            cards.pass(readings - errors);
        }
        cards.watch(observer, -1);
        cards.pass(1);
    }

    private static ShadeCards readers(int[]... readingsAndErrors) {
        ShadeCards cards = Scenes.hot();
        for (int observer = 0; observer < readingsAndErrors.length; observer++) {
            if (readingsAndErrors[observer][0] > 0) {
                letRead(cards, observer, readingsAndErrors[observer][0], readingsAndErrors[observer][1]);
            }
        }
        return cards;
    }

    private static int best(int[]... readingsAndErrors) {
        return readers(readingsAndErrors).bestObserver();
    }

    private static void comparedExactly(Edges e) {
        int[] none = {0, 0};
        e.same("3 of 10 and 2 of 7", 1, best(new int[] {10, 3}, new int[] {7, 2}, none));
        e.same("2 of 7 and 3 of 10", 0, best(new int[] {7, 2}, new int[] {10, 3}, none));
        e.same("5 of 11 and 4 of 9", 1, best(new int[] {11, 5}, new int[] {9, 4}, none));
        e.same("fewer errors, but of fewer readings", 2, best(new int[] {2, 1}, none, new int[] {9, 4}));
        e.same("none of 1", 2, best(new int[] {12, 1}, new int[] {9, 1}, new int[] {1, 0}));
        e.same("the one of the middle", 1, best(new int[] {4, 2}, new int[] {4, 1}, new int[] {4, 2}));
        e.same("20,000 of 40,001 and 20,001 of 40,003", 0, alike(0).bestObserver());
        e.same("20,001 of 40,003 and 20,000 of 40,001", 1, alike(1).bestObserver());
        e.same("the errors of the better", 20000, alike(1).errorsOf(1));
        e.same("the errors of the other", 20001, alike(1).errorsOf(0));
        e.same("80,000 of 40,000 and 40,000 of them", 1, readLong(0).bestObserver());
        e.same("40,000 of 40,000 and 80,000 of them", 0, readLong(1).bestObserver());
        e.same("the errors of the one", 2 * 40000 - 12, readLong(1).errorsOf(1));
        e.same("the errors of the other", 40000 - 12, readLong(1).errorsOf(0));
    }

    /** Two observers whose errors for each reading are not told apart by a float, the better and the other. */
    private static ShadeCards alike(int better) {
        ShadeCards cards = Scenes.hot();
        letReadLong(cards, better, 40001, 20000);
        letReadLong(cards, 1 - better, 40003, 20001);
        return cards;
    }

    /** With the bias 1 no reading of the shade 5 is wrong; with none, each one is, once the observer is tired. */
    private static void letReadLong(ShadeCards cards, int observer, int readings, int errors) {
        cards.watch(observer, 0);
        cards.setBias(observer, 1);
        passLong(cards, readings - errors);
        cards.setBias(observer, 0);
        passLong(cards, errors);
        cards.watch(observer, -1);
    }

    private static void passLong(ShadeCards cards, int ticks) {
        for (int rest = ticks; rest > 0; rest -= 200) {
            cards.pass(Math.min(200, rest));
        }
    }

    /** So long that errors times readings are more than an int holds; one of the two errs twice as much, when tired. */
    private static ShadeCards readLong(int worse) {
        ShadeCards cards = Scenes.hot();
        cards.setBias(worse, -1);
        cards.watch(0, 0);
        cards.watch(1, 0);
        for (int call = 0; call < 200; call++) {
            cards.pass(200);
        }
        return cards;
    }

    private static void withoutReadings(Edges e) {
        e.same("the only one, all wrong", 2, best(new int[] {0, 0}, new int[] {0, 0}, new int[] {3, 3}));
        ShadeCards cards = Scenes.watched();
        cards.setBias(1, -1);
        cards.watch(1, 0);
        cards.watch(0, -1);
        cards.pass(1);
        cards.watch(0, 0);
        e.same("who watches, but has not read yet", 1, cards.bestObserver());
        cards.pass(1);
        e.same("who has read well", 0, cards.bestObserver());
    }

    private static void theLowestOfSeveral(Edges e) {
        int[] none = {0, 0};
        e.same("all alike", 0, best(new int[] {2, 1}, new int[] {2, 1}, new int[] {2, 1}));
        e.same("1 of 2 and 2 of 4", 0, best(new int[] {2, 1}, new int[] {4, 2}, none));
        e.same("2 of 4 and 1 of 2", 1, best(none, new int[] {4, 2}, new int[] {2, 1}));
        e.same("none of 1 and none of 5", 0, best(new int[] {1, 0}, none, new int[] {5, 0}));
        e.same("the last two of three", 1, best(new int[] {2, 2}, new int[] {3, 0}, new int[] {1, 0}));
        Supplier<ShadeCards> undone = () -> {
            ShadeCards cards = readers(new int[] {1, 1});
            cards.undo();
            cards.undo();
            cards.undo();
            cards.undo();
            return cards;
        };
        e.same("undone, nobody has read", -1, undone.get().bestObserver());
    }
}
