import java.util.List;
import java.util.function.Supplier;

/** Promises 10 to 14: chimneys, the sky, the time. */
public final class ChimneysTest {
    private static final Check CHECK = new Check("ChimneysTest");
    private static final Class<?> NO_SUCH = IndexOutOfBoundsException.class;
    private static final Class<?> OUT_OF_RANGE = IllegalArgumentException.class;
    private static final List<Supplier<ShadeCards>> SCENES = List.of(ShadeCards::new, Scenes::busy);
    private static final int[] NO_CHIMNEY = {-1, 8, Integer.MIN_VALUE, Integer.MAX_VALUE};
    private static final int[] NO_TICK = {-1, 96, Integer.MIN_VALUE, Integer.MAX_VALUE};

    public static void main(String[] args) {
        shadeOf();
        nextStoking();
        smoke();
        smokeBothWays();
        greyOf();
        time();
        refused();
        changeNothing();
        CHECK.end();
    }

    /** Promise 10. */
    private static void shadeOf() {
        ShadeCards cards = new ShadeCards();
        cards.setChimney(0, 9, 2, 12, 0);
        int[] slow = {5, 5, 5, 4, 3, 2, 1, 0, 0, 0, 0, 0, 5, 5};
        for (int tick = 0; tick < slow.length; tick++) {
            CHECK.same("shade in " + tick, slow[tick], cards.shadeOf(0, tick));
        }
        CHECK.same("shade in 95, stoked 11 ago", 0, cards.shadeOf(0, 95));
        cards.setChimney(0, 8, 1, 7, 11);
        int[] late = {0, 5, 4, 3, 2, 1, 0, 0, 5};
        for (int behind = 0; behind < late.length; behind++) {
            CHECK.same("shade in " + (10 + behind), late[behind], cards.shadeOf(0, 10 + behind));
        }
        CHECK.same("shade in 0", 0, cards.shadeOf(0, 0));
        cards.setChimney(0, 9, 0, 5, 0);
        CHECK.same("shade in 95, stoked in it", 5, cards.shadeOf(0, 95));
        CHECK.same("shade in 94, stoked 4 ago", 1, cards.shadeOf(0, 94));
        for (int fire = 0; fire <= 9; fire++) {
            for (int damp = 0; damp <= 2; damp++) {
                cards.setChimney(3, fire, damp, 2, 0);
                int due = Math.min(5, (fire + 1) / 2 + damp);
                CHECK.same("fire " + fire + ", damp " + damp, due, cards.shadeOf(3, 4));
            }
        }
        cards.pass(90);
        cards.setChimney(1, 9, 0, 4, 2);
        CHECK.same("a tick that has passed, by what it is now", 4, cards.shadeOf(1, 3));
    }

    /** Promise 11. */
    private static void nextStoking() {
        ShadeCards cards = new ShadeCards();
        cards.setChimney(0, 0, 0, 12, 11);
        CHECK.same("from 0", 11, cards.nextStoking(0, 0));
        CHECK.same("from the first", 11, cards.nextStoking(0, 11));
        CHECK.same("from behind the first", 23, cards.nextStoking(0, 12));
        CHECK.same("from 84", 95, cards.nextStoking(0, 84));
        CHECK.same("from 95", 95, cards.nextStoking(0, 95));
        cards.setChimney(0, 0, 0, 12, 10);
        CHECK.same("from the last", 94, cards.nextStoking(0, 94));
        CHECK.same("from behind the last", -1, cards.nextStoking(0, 95));
        cards.setChimney(0, 0, 0, 7, 0);
        CHECK.same("from 0, stoked in it", 0, cards.nextStoking(0, 0));
        CHECK.same("from 1", 7, cards.nextStoking(0, 1));
        CHECK.same("from 91", 91, cards.nextStoking(0, 91));
        CHECK.same("from 92", -1, cards.nextStoking(0, 92));
        cards.pass(95);
        CHECK.same("from a tick that has passed", 7, cards.nextStoking(0, 5));
    }

    /** Promise 12. */
    private static void smoke() {
        ShadeCards cards = new ShadeCards();
        for (boolean byTurns : new boolean[] {false, true}) {
            CHECK.same("a day of chimney 0", 72, cards.smoke(0, 0, 95, byTurns));
            CHECK.same("a day of chimney 3", 71, cards.smoke(3, 0, 95, byTurns));
            CHECK.same("one tick", 2, cards.smoke(0, 4, 4, byTurns));
            CHECK.same("one tick ahead of the first stoking", 0, cards.smoke(3, 2, 2, byTurns));
            CHECK.same("all ahead of the first stoking", 0, cards.smoke(3, 0, 2, byTurns));
            CHECK.same("the last tick", 2, cards.smoke(3, 95, 95, byTurns));
            CHECK.same("a turn from its middle", 3, cards.smoke(0, 2, 5, byTurns));
            CHECK.same("less than a turn", 1, cards.smoke(0, 1, 3, byTurns));
        }
    }

    private static void smokeBothWays() {
        for (int turn = 2; turn <= 12; turn++) {
            for (int begin = 0; begin <= 11; begin += 1) {
                ShadeCards cards = new ShadeCards();
                cards.setChimney(turn % 8, 9 - begin % 3, turn % 3, turn, begin);
                for (int from = 0; from < 96; from += 5) {
                    for (int to = from; to < 96; to += 7) {
                        int due = 0;
                        for (int tick = from; tick <= to; tick++) {
                            int base = (10 - begin % 3) / 2 + turn % 3;
                            int shade = tick < begin ? 0 : base - (tick - begin) % turn;
                            due += Math.max(0, Math.min(5, shade));
                        }
                        CHECK.same("by ticks", due, cards.smoke(turn % 8, from, to, false));
                        CHECK.same("by turns", due, cards.smoke(turn % 8, from, to, true));
                    }
                }
            }
        }
    }

    /** Promise 13. */
    private static void greyOf() {
        ShadeCards cards = new ShadeCards();
        cards.setGrey(0, 4);
        cards.setGrey(23, 2);
        CHECK.same("first hour", 4, cards.greyOf(0));
        CHECK.same("an hour between", 0, cards.greyOf(12));
        CHECK.same("last hour", 2, cards.greyOf(23));
        cards.pass(150);
        CHECK.same("the next day too", 4, cards.greyOf(0));
    }

    /** Promise 14. */
    private static void time() {
        ShadeCards cards = new ShadeCards();
        int due = 0;
        for (int ticks : new int[] {1, 94, 1, 95, 1, 200, 4}) {
            cards.pass(ticks);
            due += ticks;
            CHECK.same("time", due, cards.time());
        }
    }

    private static void refused() {
        for (Supplier<ShadeCards> scene : SCENES) {
            for (int wrong : NO_CHIMNEY) {
                CHECK.refuses("shadeOf", NO_SUCH, scene, x -> x.shadeOf(wrong, 0));
                CHECK.refuses("shadeOf, first no such", NO_SUCH, scene, x -> x.shadeOf(wrong, 96));
                CHECK.refuses("nextStoking", NO_SUCH, scene, x -> x.nextStoking(wrong, 0));
                CHECK.refuses("nextStoking, first no such", NO_SUCH, scene, x -> x.nextStoking(wrong, -1));
                CHECK.refuses("smoke", NO_SUCH, scene, x -> x.smoke(wrong, 0, 1, false));
                CHECK.refuses("smoke, first no such", NO_SUCH, scene, x -> x.smoke(wrong, 2, 1, true));
            }
            for (int wrong : NO_TICK) {
                CHECK.refuses("shadeOf in " + wrong, OUT_OF_RANGE, scene, x -> x.shadeOf(7, wrong));
                CHECK.refuses("nextStoking from " + wrong, OUT_OF_RANGE, scene, x -> x.nextStoking(7, wrong));
                for (boolean byTurns : new boolean[] {false, true}) {
                    CHECK.refuses("smoke from " + wrong, OUT_OF_RANGE, scene, x -> x.smoke(0, wrong, 95, byTurns));
                    CHECK.refuses("smoke to " + wrong, OUT_OF_RANGE, scene, x -> x.smoke(0, 0, wrong, byTurns));
                    CHECK.refuses("smoke in " + wrong, OUT_OF_RANGE, scene, x -> x.smoke(0, wrong, wrong, byTurns));
                    CHECK.refuses("smoke backwards", OUT_OF_RANGE, scene, x -> x.smoke(0, 50, 49, byTurns));
                }
            }
            for (int wrong : new int[] {-1, 24, Integer.MIN_VALUE, Integer.MAX_VALUE}) {
                CHECK.refuses("greyOf " + wrong, OUT_OF_RANGE, scene, x -> x.greyOf(wrong));
            }
        }
    }

    private static void changeNothing() {
        ShadeCards asked = Scenes.busy();
        asked.shadeOf(0, 3);
        asked.nextStoking(0, 3);
        asked.smoke(0, 3, 90, true);
        asked.smoke(0, 3, 90, false);
        asked.greyOf(0);
        asked.time();
        CHECK.same("what stands behind questions", Sight.of(Scenes.busy()), Sight.of(asked));
    }
}
