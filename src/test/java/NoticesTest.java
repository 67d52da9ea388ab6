import java.util.List;
import java.util.function.Supplier;

/** Promises 23 to 29: notices and fines. */
public final class NoticesTest {
    private static final Check CHECK = new Check("NoticesTest");
    private static final Class<?> NO_SUCH = IndexOutOfBoundsException.class;
    private static final List<Supplier<ShadeCards>> SCENES = List.of(ShadeCards::new, Scenes::busy);

    public static void main(String[] args) {
        notices();
        eachNotice();
        wouldAppeal();
        finesOf();
        worstChimney();
        refused();
        changeNothing();
        CHECK.end();
    }

    /** Notices against 1, 6 (tick 2, hour 0 is grey), then 6 twice and 1 once (hour 1). */
    private static ShadeCards five() {
        ShadeCards cards = new ShadeCards();
        cards.setChimney(1, 9, 2, 2, 0);
        cards.setChimney(6, 9, 2, 2, 0);
        cards.setGrey(0, 3);
        cards.watch(0, 6);
        cards.watch(1, 1);
        cards.pass(3);
        cards.watch(0, -1);
        cards.watch(1, -1);
        cards.pass(1);
        cards.setLimit(3, 1);
        cards.watch(0, 6);
        cards.pass(1);
        cards.watch(0, -1);
        cards.pass(1);
        cards.watch(0, 6);
        cards.watch(1, 1);
        cards.pass(1);
        return cards;
    }

    /** Promise 23. */
    private static void notices() {
        ShadeCards cards = five();
        CHECK.same("notices", 5, cards.notices());
        CHECK.same("upheld", true, cards.appeal(0));
        CHECK.same("an upheld one is still there", 5, cards.notices());
        cards.pass(95);
        CHECK.same("also on the next day", true, cards.notices() >= 5);
    }

    /** Promises 24, 25 and 26. */
    private static void eachNotice() {
        ShadeCards cards = five();
        int[] chimneys = {1, 6, 6, 1, 6};
        int[] fines = {10, 10, 20, 20, 30};
        for (int notice = 0; notice < 5; notice++) {
            CHECK.same("chimney of " + notice, chimneys[notice], cards.chimneyOf(notice));
            CHECK.same("fine of " + notice, fines[notice], cards.fineOf(notice));
            CHECK.same("stands " + notice, true, cards.stands(notice));
        }
        CHECK.same("a grey one", true, cards.appeal(1));
        CHECK.same("a clear one", false, cards.appeal(4));
        boolean[] stand = {true, false, true, true, true};
        for (int notice = 0; notice < 5; notice++) {
            CHECK.same("behind appeals, chimney of " + notice, chimneys[notice], cards.chimneyOf(notice));
            CHECK.same("behind appeals, fine of " + notice, fines[notice], cards.fineOf(notice));
            CHECK.same("behind appeals, stands " + notice, stand[notice], cards.stands(notice));
        }
    }

    /** Promise 27. */
    private static void wouldAppeal() {
        ShadeCards cards = five();
        int[] due = {0, 0, 2, 2, 2};
        for (int notice = 0; notice < 5; notice++) {
            CHECK.same("would appeal " + notice, due[notice], cards.wouldAppeal(notice));
            CHECK.same("appeal " + notice, due[notice] < 2, cards.appeal(notice));
            CHECK.same("made " + notice, 3, cards.wouldAppeal(notice));
        }
        ShadeCards less = new ShadeCards();
        less.setChimney(0, 5, 0, 2, 0);
        less.setBias(2, 1);
        less.watch(2, 0);
        CHECK.same("4, 3, 4 read of 3, 2, 3", 1, less.pass(3));
        CHECK.same("as the shade was less", 1, less.wouldAppeal(0));
        ShadeCards grey = new ShadeCards();
        grey.setChimney(0, 7, 0, 2, 0);
        grey.setBias(2, 1);
        grey.watch(2, 0);
        grey.setLimit(4, 3);
        grey.setGrey(0, 3);
        CHECK.same("5, 4, 5 read of 4, 3, 4", 1, grey.pass(3));
        CHECK.same("grey goes first", 0, grey.wouldAppeal(0));
    }

    /** Promise 28. */
    private static void finesOf() {
        ShadeCards cards = five();
        for (boolean byAccounts : new boolean[] {false, true}) {
            CHECK.same("fines of 1", 30, cards.finesOf(1, byAccounts));
            CHECK.same("fines of 6", 60, cards.finesOf(6, byAccounts));
            CHECK.same("fines of 0", 0, cards.finesOf(0, byAccounts));
        }
        cards.appeal(1);
        cards.appeal(2);
        for (boolean byAccounts : new boolean[] {false, true}) {
            CHECK.same("behind appeals, fines of 1", 30, cards.finesOf(1, byAccounts));
            CHECK.same("behind appeals, fines of 6", 50, cards.finesOf(6, byAccounts));
        }
        cards.undo();
        cards.undo();
        cards.appeal(0);
        cards.save(1);
        cards.undo();
        for (boolean byAccounts : new boolean[] {false, true}) {
            CHECK.same("undone, fines of 1", 30, cards.finesOf(1, byAccounts));
            CHECK.same("undone, fines of 6", 60, cards.finesOf(6, byAccounts));
        }
        cards.restore(1);
        for (boolean byAccounts : new boolean[] {false, true}) {
            CHECK.same("restored, fines of 1", 20, cards.finesOf(1, byAccounts));
        }
    }

    /** Promise 29. */
    private static void worstChimney() {
        ShadeCards cards = five();
        CHECK.same("30 and 60", 6, cards.worstChimney());
        cards.setLimit(3, 3);
        ShadeCards even = new ShadeCards();
        even.setChimney(3, 9, 2, 2, 0);
        even.setChimney(7, 9, 2, 2, 0);
        even.setGrey(0, 3);
        even.watch(0, 7);
        CHECK.same("nobody", -1, even.worstChimney());
        even.pass(1);
        even.watch(1, 3);
        even.pass(2);
        CHECK.same("the only one", 7, even.worstChimney());
        even.pass(1);
        CHECK.same("of two the lowest", 3, even.worstChimney());
        CHECK.same("notice 1 is of 3", 3, even.chimneyOf(1));
        even.appeal(1);
        CHECK.same("one that stands", 7, even.worstChimney());
        even.appeal(0);
        CHECK.same("none that stands", -1, even.worstChimney());
        CHECK.same("given back to 7", 0, even.finesOf(7, true));
        CHECK.same("chimney 0", 0, Scenes.noticed().worstChimney());
    }

    private static void refused() {
        for (Supplier<ShadeCards> scene : SCENES) {
            for (int wrong : new int[] {-1, 3, 19, 20, Integer.MIN_VALUE, Integer.MAX_VALUE}) {
                CHECK.refuses("chimneyOf " + wrong, NO_SUCH, scene, x -> x.chimneyOf(wrong));
                CHECK.refuses("fineOf " + wrong, NO_SUCH, scene, x -> x.fineOf(wrong));
                CHECK.refuses("stands " + wrong, NO_SUCH, scene, x -> x.stands(wrong));
                CHECK.refuses("wouldAppeal " + wrong, NO_SUCH, scene, x -> x.wouldAppeal(wrong));
            }
            for (int wrong : new int[] {-1, 8, Integer.MIN_VALUE, Integer.MAX_VALUE}) {
                CHECK.refuses("finesOf " + wrong, NO_SUCH, scene, x -> x.finesOf(wrong, false));
                CHECK.refuses("finesOf " + wrong, NO_SUCH, scene, x -> x.finesOf(wrong, true));
            }
        }
        Supplier<ShadeCards> undone = () -> {
            ShadeCards cards = Scenes.noticed();
            cards.undo();
            return cards;
        };
        CHECK.refuses("chimneyOf an undone notice", NO_SUCH, undone, x -> x.chimneyOf(0));
    }

    private static void changeNothing() {
        ShadeCards asked = Scenes.busy();
        asked.notices();
        asked.chimneyOf(1);
        asked.fineOf(1);
        asked.stands(1);
        asked.wouldAppeal(1);
        asked.finesOf(5, false);
        asked.finesOf(5, true);
        asked.worstChimney();
        CHECK.same("what stands behind questions", Sight.of(Scenes.busy()), Sight.of(asked));
    }
}
