import java.util.List;
import java.util.function.Supplier;

/** Promises 30 to 33: what is to come. */
public final class ToComeTest {
    private static final Check CHECK = new Check("ToComeTest");
    private static final Class<?> NO_SUCH = IndexOutOfBoundsException.class;
    private static final Class<?> OUT_OF_RANGE = IllegalArgumentException.class;
    private static final List<Supplier<ShadeCards>> SCENES = List.of(ShadeCards::new, Scenes::busy);

    public static void main(String[] args) {
        toWatch();
        toWatchAtTheEndOfADay();
        noticesIn();
        ticksToNotice();
        mildLimit();
        refused();
        changeNothing();
        CHECK.end();
    }

    /** Promise 30. */
    private static void toWatch() {
        for (boolean byPicking : new boolean[] {false, true}) {
            ShadeCards cards = new ShadeCards();
            CHECK.same("0 and 4 smoke, the others are even", 0b00010011, cards.toWatch(1, byPicking));
            CHECK.same("a day: 72 of each of 0, 1, 2, 4, 5, 6", 0b00000111, cards.toWatch(96, byPicking));
            cards.setChimney(7, 9, 0, 4, 0);
            cards.setChimney(6, 9, 1, 4, 0);
            CHECK.same("6, 7, and the lower of 0 and 4", 0b11000001, cards.toWatch(1, byPicking));
            cards.setChimney(5, 9, 2, 4, 0);
            CHECK.same("the three hottest", 0b11100000, cards.toWatch(2, byPicking));
            ShadeCards cold = new ShadeCards();
            for (int chimney = 0; chimney < 8; chimney++) {
                cold.setChimney(chimney, 0, 0, 2, 0);
            }
            CHECK.same("nobody smokes", 0b00000111, cold.toWatch(96, byPicking));
            cold.setChimney(7, 1, 0, 2, 1);
            CHECK.same("one smokes from the tick 1 on", 0b00000111, cold.toWatch(1, byPicking));
            CHECK.same("one smokes in the tick 1", 0b10000011, cold.toWatch(2, byPicking));
        }
    }

    private static void toWatchAtTheEndOfADay() {
        for (boolean byPicking : new boolean[] {false, true}) {
            ShadeCards cards = new ShadeCards();
            cards.pass(94);
            CHECK.same("ticks 94 and 95", 0b01001100, cards.toWatch(96, byPicking));
            CHECK.same("tick 94 alone: 2 and 6, and 1 with 5", 0b01000110, cards.toWatch(1, byPicking));
            cards.pass(1);
            CHECK.same("tick 95 alone", 0b10001100, cards.toWatch(96, byPicking));
            CHECK.same("tick 95 alone, again", 0b10001100, cards.toWatch(2, byPicking));
            cards.pass(1);
            CHECK.same("the next day", 0b00010011, cards.toWatch(1, byPicking));
        }
    }

    /** Promise 31. */
    private static void noticesIn() {
        CHECK.same("nobody watches", 0, new ShadeCards().noticesIn(200));
        ShadeCards cards = Scenes.watched();
        CHECK.same("2 ticks", 0, cards.noticesIn(2));
        CHECK.same("3 ticks", 1, cards.noticesIn(3));
        CHECK.same("98 ticks", 1, cards.noticesIn(98));
        CHECK.same("99 ticks, two days", 2, cards.noticesIn(99));
        CHECK.same("asked again", 2, cards.noticesIn(99));
        cards.pass(2);
        CHECK.same("a row goes on", 1, cards.noticesIn(1));
        CHECK.same("nothing came by asking", 0, cards.notices());
        ShadeCards many = new ShadeCards();
        many.setChimney(2, 9, 0, 8, 0);
        many.watch(1, 2);
        many.setLimit(4, 1);
        CHECK.same("no more than twenty", 20, many.noticesIn(200));
        many.pass(100);
        CHECK.same("what is left of twenty", 7, many.noticesIn(200));
    }

    /** Promise 32. */
    private static void ticksToNotice() {
        ShadeCards cards = Scenes.watched();
        CHECK.same("a row of three", 3, cards.ticksToNotice(0));
        CHECK.same("nobody watches it", -1, cards.ticksToNotice(1));
        cards.pass(1);
        CHECK.same("one tick less", 2, cards.ticksToNotice(0));
        cards.pass(2);
        CHECK.same("the next day's", 96, cards.ticksToNotice(0));
        cards.watch(1, 2);
        cards.setBias(1, 1);
        cards.setChimney(2, 7, 0, 2, 8);
        CHECK.same("8, 9, 10", 8, cards.ticksToNotice(2));
        CHECK.same("the other's does not matter", 96, cards.ticksToNotice(0));
        ShadeCards far = new ShadeCards();
        far.setChimney(0, 9, 2, 2, 0);
        far.setGrey(0, 0);
        far.setLimit(5, 8);
        far.setBias(0, 1);
        far.watch(0, 0);
        far.pass(8);
        CHECK.same("just behind a notice", 96, far.ticksToNotice(0));
        ShadeCards edge = new ShadeCards();
        edge.setChimney(0, 9, 0, 12, 11);
        edge.setLimit(5, 1);
        edge.watch(0, 0);
        CHECK.same("the first stoking", 12, edge.ticksToNotice(0));
        edge.pass(12);
        CHECK.same("tired from then on", -1, edge.ticksToNotice(0));
    }

    /** Promise 33. */
    private static void mildLimit() {
        CHECK.same("nobody watches", 1, new ShadeCards().mildLimit(200));
        ShadeCards cards = Scenes.watched();
        CHECK.same("2 ticks", 1, cards.mildLimit(2));
        CHECK.same("3 ticks of 5", -1, cards.mildLimit(3));
        cards.pass(2);
        CHECK.same("a row of two", -1, cards.mildLimit(1));
        cards.pass(1);
        CHECK.same("longer than the patience", 1, cards.mildLimit(90));
        CHECK.same("the next day", 5, cards.mildLimit(96));
        ShadeCards normal = new ShadeCards();
        normal.watch(0, 0);
        CHECK.same("2, 1, 0, 0 with the patience 3", 1, normal.mildLimit(200));
        normal.setLimit(5, 2);
        CHECK.same("2, 1, 0, 0 with the patience 2", 2, normal.mildLimit(10));
        normal.setLimit(5, 1);
        CHECK.same("2, 1, 0, 0 with the patience 1", 3, normal.mildLimit(1));
        normal.setChimney(0, 7, 0, 4, 0);
        CHECK.same("4, 3, 2, 1 with the patience 1", 5, normal.mildLimit(200));
        CHECK.same("the limit itself stays", 5, normal.setLimit(1, 1));
    }

    private static void refused() {
        for (Supplier<ShadeCards> scene : SCENES) {
            for (int wrong : new int[] {-1, 0, 97, Integer.MIN_VALUE, Integer.MAX_VALUE}) {
                CHECK.refuses("toWatch " + wrong, OUT_OF_RANGE, scene, x -> x.toWatch(wrong, false));
                CHECK.refuses("toWatch " + wrong, OUT_OF_RANGE, scene, x -> x.toWatch(wrong, true));
            }
            for (int wrong : new int[] {-1, 0, 201, Integer.MIN_VALUE, Integer.MAX_VALUE}) {
                CHECK.refuses("noticesIn " + wrong, OUT_OF_RANGE, scene, x -> x.noticesIn(wrong));
                CHECK.refuses("mildLimit " + wrong, OUT_OF_RANGE, scene, x -> x.mildLimit(wrong));
            }
            for (int wrong : new int[] {-1, 8, Integer.MIN_VALUE, Integer.MAX_VALUE}) {
                CHECK.refuses("ticksToNotice " + wrong, NO_SUCH, scene, x -> x.ticksToNotice(wrong));
            }
        }
        CHECK.same("96 ticks can be asked for", 0b00000111, new ShadeCards().toWatch(96, true));
        CHECK.same("200 ticks can be asked for", 0, new ShadeCards().noticesIn(200));
        CHECK.same("200 ticks can be asked for", 1, new ShadeCards().mildLimit(200));
    }

    private static void changeNothing() {
        ShadeCards asked = Scenes.busy();
        asked.toWatch(96, false);
        asked.toWatch(96, true);
        asked.noticesIn(200);
        asked.ticksToNotice(0);
        asked.ticksToNotice(5);
        asked.mildLimit(200);
        CHECK.same("what stands behind questions", Sight.of(Scenes.busy()), Sight.of(asked));
    }
}
