import java.util.List;
import java.util.function.Supplier;

/** Promises 15 to 22: observers and their readings. */
public final class ObserversTest {
    private static final Check CHECK = new Check("ObserversTest");
    private static final Class<?> NO_SUCH = IndexOutOfBoundsException.class;
    private static final Class<?> OUT_OF_RANGE = IllegalArgumentException.class;
    private static final List<Supplier<ShadeCards>> SCENES = List.of(ShadeCards::new, Scenes::busy);

    public static void main(String[] args) {
        watchedBy();
        tirednessOf();
        wouldRead();
        wouldReadTired();
        readingOf();
        readingsFrom();
        longestRow();
        errorsOf();
        bestObserver();
        refused();
        changeNothing();
        CHECK.end();
    }

    /** Promise 15. */
    private static void watchedBy() {
        ShadeCards cards = new ShadeCards();
        cards.watch(0, 7);
        cards.watch(2, 0);
        CHECK.same("observer 0", 7, cards.watchedBy(0));
        CHECK.same("observer 1", -1, cards.watchedBy(1));
        CHECK.same("observer 2", 0, cards.watchedBy(2));
        cards.pass(150);
        CHECK.same("the next day too", 7, cards.watchedBy(0));
    }

    /** Promise 16. */
    private static void tirednessOf() {
        ShadeCards cards = new ShadeCards();
        cards.watch(1, 4);
        CHECK.same("ahead of a tick", 0, cards.tirednessOf(1));
        cards.pass(1);
        CHECK.same("behind a tick", 1, cards.tirednessOf(1));
        cards.pass(199);
        CHECK.same("behind 200", 200, cards.tirednessOf(1));
        CHECK.same("who rests", 0, cards.tirednessOf(0));
        cards.watch(1, -1);
        CHECK.same("not yet rested", 200, cards.tirednessOf(1));
        cards.pass(1);
        CHECK.same("rested", 0, cards.tirednessOf(1));
    }

    /** Promise 17. */
    private static void wouldRead() {
        int[] fires = {0, 1, 3, 5, 7, 9};
        for (int shade = 0; shade <= 5; shade++) {
            for (int bias = -1; bias <= 1; bias++) {
                for (int grey = 0; grey <= 4; grey++) {
                    ShadeCards cards = new ShadeCards();
                    cards.setChimney(6, fires[shade], 0, 2, 0);
                    cards.setBias(1, bias);
                    cards.setGrey(0, grey);
                    boolean hidden = grey >= 3 && shade <= 2;
                    int due = hidden ? 0 : Math.max(0, Math.min(5, shade + bias));
                    CHECK.same("shade " + shade + ", bias " + bias + ", grey " + grey, due, cards.wouldRead(1, 6));
                }
            }
        }
        ShadeCards later = new ShadeCards();
        later.setGrey(1, 3);
        later.pass(4);
        CHECK.same("the grey of the hour of the tick at hand", 0, later.wouldRead(0, 0));
        later.pass(4);
        CHECK.same("the next hour", 2, later.wouldRead(0, 0));
        later.pass(1);
        CHECK.same("the shade in the tick at hand", 1, later.wouldRead(0, 0));
    }

    private static void wouldReadTired() {
        ShadeCards cards = Scenes.watched();
        cards.pass(11);
        CHECK.same("tiredness 11", 5, cards.wouldRead(0, 0));
        cards.pass(1);
        CHECK.same("tiredness 12", 4, cards.wouldRead(0, 0));
        CHECK.same("tiredness 12, another chimney", 1, cards.wouldRead(0, 4));
        CHECK.same("tiredness 12, shade 0", 0, cards.wouldRead(0, 1));
        CHECK.same("another observer", 5, cards.wouldRead(1, 0));
        cards.setBias(0, 1);
        CHECK.same("tired, and bias 1", 5, cards.wouldRead(0, 0));
        CHECK.same("tired, and bias 1, shade 0", 0, cards.wouldRead(0, 1));
        cards.setBias(0, -1);
        CHECK.same("tired, and bias -1", 3, cards.wouldRead(0, 0));
        CHECK.same("tired, and bias -1, shade 2", 0, cards.wouldRead(0, 4));
        cards.setGrey(3, 3);
        CHECK.same("grey, by the shade and not by what is read", 3, cards.wouldRead(0, 0));
        cards.watch(0, -1);
        CHECK.same("resting, but still tired", 3, cards.wouldRead(0, 0));
    }

    /** Promise 18. */
    private static void readingOf() {
        ShadeCards cards = Scenes.watched();
        cards.setChimney(0, 9, 0, 5, 1);
        cards.pass(4);
        int[] due = {0, 5, 4, 3, -1};
        for (int tick = 0; tick < due.length; tick++) {
            CHECK.same("reading in " + tick, due[tick], cards.readingOf(0, tick));
        }
        CHECK.same("last tick", -1, cards.readingOf(0, 95));
        CHECK.same("another chimney", -1, cards.readingOf(1, 1));
        cards.setChimney(0, 0, 0, 2, 0);
        CHECK.same("a reading stays when the fire changes", 5, cards.readingOf(0, 1));
        cards.pass(91);
        CHECK.same("tick 95 is at hand", -1, cards.readingOf(0, 95));
        cards.setChimney(0, 9, 2, 2, 0);
        cards.pass(1);
        CHECK.same("a new day", -1, cards.readingOf(0, 95));
        CHECK.same("a new day, tick 1", -1, cards.readingOf(0, 1));
    }

    /** Chimney 0: 5 5 4 3, four without reading, 5 5 4 3 2 1 0 0, and none behind them. */
    private static ShadeCards twoRows() {
        ShadeCards cards = new ShadeCards();
        cards.setChimney(0, 9, 1, 8, 0);
        cards.watch(0, 0);
        cards.pass(4);
        cards.watch(0, -1);
        cards.pass(4);
        cards.watch(0, 0);
        cards.pass(8);
        return cards;
    }

    /** Promise 19. */
    private static void readingsFrom() {
        ShadeCards cards = twoRows();
        int[] due = {12, 10, 9, 8, 6, 4};
        for (int limit = 0; limit <= 5; limit++) {
            CHECK.same("readings from " + limit, due[limit], cards.readingsFrom(0, limit));
            CHECK.same("readings of another from " + limit, 0, cards.readingsFrom(1, limit));
        }
        cards.pass(80);
        CHECK.same("on a new day", 0, cards.readingsFrom(0, 0));
    }

    /** Promise 20. */
    private static void longestRow() {
        ShadeCards cards = twoRows();
        int[] due = {8, 6, 5, 4, 3, 2};
        for (boolean byRows : new boolean[] {false, true}) {
            for (int limit = 0; limit <= 5; limit++) {
                CHECK.same("longest from " + limit, due[limit], cards.longestRow(0, limit, byRows));
            }
            CHECK.same("longest of a chimney without readings", 0, cards.longestRow(7, 0, byRows));
        }
        ShadeCards first = Scenes.watched();
        first.pass(5);
        first.setChimney(0, 0, 0, 2, 0);
        first.pass(2);
        first.setChimney(0, 9, 2, 2, 0);
        first.pass(3);
        ShadeCards last = Scenes.hot();
        last.pass(90);
        last.watch(2, 0);
        last.pass(5);
        ShadeCards whole = Scenes.watched();
        whole.pass(95);
        for (boolean byRows : new boolean[] {false, true}) {
            CHECK.same("the first row is the longest", 5, first.longestRow(0, 3, byRows));
            CHECK.same("limit 0 joins them", 10, first.longestRow(0, 0, byRows));
            CHECK.same("the last row", 5, last.longestRow(0, 5, byRows));
            CHECK.same("nearly a day", 95, whole.longestRow(0, 4, byRows));
            CHECK.same("until tired", 12, whole.longestRow(0, 5, byRows));
        }
    }

    /** Promise 21. */
    private static void errorsOf() {
        ShadeCards cards = Scenes.watched();
        cards.setBias(1, -1);
        cards.watch(1, 0);
        cards.setBias(2, 1);
        cards.watch(2, 0);
        cards.pass(12);
        CHECK.same("no bias", 0, cards.errorsOf(0));
        CHECK.same("bias -1", 12, cards.errorsOf(1));
        CHECK.same("bias 1, held to 5", 0, cards.errorsOf(2));
        cards.pass(2);
        CHECK.same("tired", 2, cards.errorsOf(0));
        CHECK.same("bias -1 and tired", 16, cards.errorsOf(1));
        CHECK.same("bias 1 and tired", 0, cards.errorsOf(2));
        ShadeCards hidden = new ShadeCards();
        hidden.setGrey(0, 3);
        hidden.setBias(1, 1);
        hidden.watch(0, 0);
        hidden.watch(1, 4);
        hidden.pass(8);
        CHECK.same("2, 1, 0, 0 hidden, then well read", 3, hidden.errorsOf(0));
        CHECK.same("2, 1, 0, 0 hidden, then one too much each", 7, hidden.errorsOf(1));
        CHECK.same("who rests", 0, hidden.errorsOf(2));
        hidden.pass(100);
        hidden.undo();
        CHECK.same("undone", 3, hidden.errorsOf(0));
    }

    /** Promise 22. */
    private static void bestObserver() {
        ShadeCards cards = Scenes.hot();
        CHECK.same("nobody has read", -1, cards.bestObserver());
        cards.watch(2, 0);
        CHECK.same("nobody has read yet", -1, cards.bestObserver());
        cards.setBias(2, -1);
        cards.pass(1);
        CHECK.same("the only one, with an error", 2, cards.bestObserver());
        cards.watch(2, -1);
        cards.watch(0, 0);
        cards.setBias(0, -1);
        cards.pass(2);
        CHECK.same("1 in 1 and 2 in 2: the lowest", 0, cards.bestObserver());
        cards.setBias(2, 0);
        cards.watch(2, 0);
        cards.watch(0, -1);
        cards.pass(1);
        CHECK.same("1 in 2 and 2 in 2", 2, cards.bestObserver());
        cards.setBias(0, 0);
        cards.watch(0, 0);
        cards.watch(2, -1);
        cards.pass(2);
        CHECK.same("2 in 4 and 1 in 2: the lowest", 0, cards.bestObserver());
        cards.watch(0, -1);
        cards.watch(2, 0);
        cards.pass(1);
        CHECK.same("2 in 4 and 1 in 3: not rounded", 2, cards.bestObserver());
        cards.watch(1, 0);
        cards.pass(1);
        CHECK.same("none in 1", 1, cards.bestObserver());
    }

    private static void refused() {
        for (Supplier<ShadeCards> scene : SCENES) {
            for (int wrong : new int[] {-1, 3, Integer.MIN_VALUE, Integer.MAX_VALUE}) {
                CHECK.refuses("watchedBy " + wrong, NO_SUCH, scene, x -> x.watchedBy(wrong));
                CHECK.refuses("tirednessOf " + wrong, NO_SUCH, scene, x -> x.tirednessOf(wrong));
                CHECK.refuses("wouldRead by " + wrong, NO_SUCH, scene, x -> x.wouldRead(wrong, 0));
                CHECK.refuses("errorsOf " + wrong, NO_SUCH, scene, x -> x.errorsOf(wrong));
            }
            for (int wrong : new int[] {-1, 8, Integer.MIN_VALUE, Integer.MAX_VALUE}) {
                CHECK.refuses("wouldRead of " + wrong, NO_SUCH, scene, x -> x.wouldRead(2, wrong));
                CHECK.refuses("readingOf " + wrong, NO_SUCH, scene, x -> x.readingOf(wrong, 0));
                CHECK.refuses("readingOf, first no such", NO_SUCH, scene, x -> x.readingOf(wrong, 96));
                CHECK.refuses("readingsFrom " + wrong, NO_SUCH, scene, x -> x.readingsFrom(wrong, 0));
                CHECK.refuses("readingsFrom, first no such", NO_SUCH, scene, x -> x.readingsFrom(wrong, 6));
                CHECK.refuses("longestRow " + wrong, NO_SUCH, scene, x -> x.longestRow(wrong, 0, true));
                CHECK.refuses("longestRow, first no such", NO_SUCH, scene, x -> x.longestRow(wrong, 6, false));
            }
            for (int wrong : new int[] {-1, 96, Integer.MIN_VALUE, Integer.MAX_VALUE}) {
                CHECK.refuses("readingOf in " + wrong, OUT_OF_RANGE, scene, x -> x.readingOf(0, wrong));
            }
            for (int wrong : new int[] {-1, 6, Integer.MIN_VALUE, Integer.MAX_VALUE}) {
                CHECK.refuses("readingsFrom limit " + wrong, OUT_OF_RANGE, scene, x -> x.readingsFrom(0, wrong));
                CHECK.refuses("longestRow limit " + wrong, OUT_OF_RANGE, scene, x -> x.longestRow(7, wrong, true));
                CHECK.refuses("longestRow limit " + wrong, OUT_OF_RANGE, scene, x -> x.longestRow(7, wrong, false));
            }
        }
    }

    private static void changeNothing() {
        ShadeCards asked = Scenes.busy();
        asked.watchedBy(0);
        asked.tirednessOf(0);
        asked.wouldRead(0, 5);
        asked.readingOf(0, 1);
        asked.readingsFrom(0, 1);
        asked.longestRow(0, 1, true);
        asked.longestRow(0, 1, false);
        asked.errorsOf(1);
        asked.bestObserver();
        CHECK.same("what stands behind questions", Sight.of(Scenes.busy()), Sight.of(asked));
    }
}
