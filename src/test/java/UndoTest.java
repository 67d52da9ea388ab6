import java.util.List;
import java.util.function.Consumer;
import java.util.function.Supplier;

/** Promises 38 to 41: undo and saved states. */
public final class UndoTest {
    private static final Check CHECK = new Check("UndoTest");
    private static final Class<?> NO_SUCH = IndexOutOfBoundsException.class;
    private static final Class<?> NOT_NOW = IllegalStateException.class;
    private static final List<Supplier<ShadeCards>> SCENES = List.of(ShadeCards::new, Scenes::busy);

    public static void main(String[] args) {
        undoEachChange();
        undoHistory();
        undoLeavesPadAndSlots();
        undoable();
        save();
        restore();
        refused();
        CHECK.end();
    }

    private static void undoOne(String what, Consumer<ShadeCards> change) {
        for (Supplier<ShadeCards> scene : SCENES) {
            ShadeCards cards = scene.get();
            ShadeCards twin = scene.get();
            cards.wipe();
            twin.wipe();
            cards.save(1);
            twin.save(1);
            boolean wasFull = cards.undoable() == 6;
            change.accept(cards);
            CHECK.same("changes behind " + what, wasFull ? 6 : 1, cards.undoable());
            CHECK.same("left behind undo of " + what, wasFull ? 5 : 0, cards.undo());
            if (!wasFull) {
                CHECK.same("what stands behind undo of " + what, Sight.of(twin), Sight.of(cards));
            } else {
                CHECK.same("the state behind undo of " + what, Sight.stateOf(twin), Sight.stateOf(cards));
            }
        }
    }

    /** Promise 38. */
    private static void undoEachChange() {
        undoOne("setChimney", x -> x.setChimney(3, 9, 2, 7, 5));
        undoOne("setGrey", x -> x.setGrey(5, 4));
        undoOne("watch", x -> x.watch(2, 4));
        undoOne("setBias", x -> x.setBias(1, -1));
        undoOne("setLimit", x -> x.setLimit(5, 7));
        undoOne("pass", x -> x.pass(3));
        undoOne("pass over a day", x -> x.pass(150));
        undoOne("read", x -> Check.write(x, "o00;f09;d02;g1=3;.1;a0;r0;.").read());
        undoOne("restore", x -> x.restore(1));
        undoOne("a setLimit that changes nothing", x -> x.setLimit(3, 3));
        undoOne("a watch that changes nothing", x -> x.watch(1, x.watchedBy(1)));
        ShadeCards appealed = Scenes.noticed();
        appealed.appeal(0);
        appealed.undo();
        CHECK.same("what stands behind undo of appeal", Sight.of(Scenes.noticed()), Sight.of(appealed));
    }

    private static void undoHistory() {
        ShadeCards cards = new ShadeCards();
        for (int ticks = 1; ticks <= 9; ticks++) {
            cards.pass(ticks);
            CHECK.same("at most 6", Math.min(6, ticks), cards.undoable());
        }
        int[] due = {36, 28, 21, 15, 10, 6};
        for (int left = 5; left >= 0; left--) {
            CHECK.same("left", left, cards.undo());
            CHECK.same("time", due[5 - left], cards.time());
        }
        CHECK.same("undo of the oldest that is kept", "throws.IllegalStateException", Sight.answer(cards::undo));
        CHECK.same("time stays", 6, cards.time());
        cards.pass(1);
        CHECK.same("a change behind undo", 1, cards.undoable());
        CHECK.same("undone", 0, cards.undo());
        CHECK.same("time again", 6, cards.time());
        ShadeCards mixed = new ShadeCards();
        mixed.pass(1);
        mixed.pass(2);
        mixed.undo();
        mixed.pass(4);
        CHECK.same("changes", 2, mixed.undoable());
        mixed.undo();
        CHECK.same("behind the first", 1, mixed.time());
        mixed.undo();
        CHECK.same("ahead of the first", 0, mixed.time());
    }

    private static void undoLeavesPadAndSlots() {
        ShadeCards cards = new ShadeCards();
        cards.pass(5);
        cards.save(0);
        cards.pass(7);
        cards.save(1);
        Check.write(cards, ".9");
        cards.read();
        Check.write(cards, "o00");
        cards.undo();
        CHECK.same("the pad of now", 3, cards.padLength());
        CHECK.same("its text", -1, cards.fault());
        cards.undo();
        cards.undo();
        CHECK.same("at the start", 0, cards.time());
        cards.restore(1);
        CHECK.same("slot 1 was kept", 12, cards.time());
        cards.restore(0);
        CHECK.same("slot 0 was kept", 5, cards.time());
        CHECK.same("restores are changes", 2, cards.undoable());
        CHECK.same("the pad is kept", 3, cards.padLength());
        cards.undo();
        CHECK.same("undo of a restore", 12, cards.time());
    }

    /** Promise 39. */
    private static void undoable() {
        ShadeCards cards = new ShadeCards();
        cards.save(0);
        cards.put('.');
        cards.wipe();
        cards.noticesIn(5);
        CHECK.same("none of these is a change", 0, cards.undoable());
        cards.pass(1);
        cards.setGrey(0, 0);
        cards.setBias(0, 0);
        CHECK.same("each of these is one", 3, cards.undoable());
        cards.undo();
        CHECK.same("undo takes one", 2, cards.undoable());
    }

    /** Promise 40. */
    private static void save() {
        ShadeCards cards = Scenes.watched();
        CHECK.same("none stands", 0, cards.save(1));
        cards.setGrey(0, 3);
        cards.pass(3);
        CHECK.same("one stands", 1, cards.save(0));
        CHECK.same("save is no change", 4, cards.undoable());
        cards.setLimit(1, 4);
        cards.pass(1);
        cards.setLimit(1, 5);
        cards.pass(1);
        CHECK.same("three stand", 3, cards.save(0));
        cards.appeal(0);
        CHECK.same("two stand", 2, cards.save(0));
        cards.undo();
        CHECK.same("a slot keeps what was saved", 2, cards.restore(0));
        CHECK.same("the other slot", 0, cards.restore(1));
        CHECK.same("its time", 0, cards.time());
        CHECK.same("its observer", 0, cards.watchedBy(0));
        CHECK.same("its sky", 0, cards.greyOf(0));
    }

    /** Promise 41. */
    private static void restore() {
        for (Supplier<ShadeCards> scene : SCENES) {
            ShadeCards cards = scene.get();
            cards.save(1);
            String due = Sight.stateOf(withSlot(scene));
            cards.setChimney(2, 9, 1, 5, 7);
            cards.setGrey(0, 4);
            cards.watch(1, 2);
            cards.setBias(0, -1);
            cards.setLimit(1, 1);
            cards.pass(120);
            int stand = cards.restore(1);
            int due2 = 0;
            for (int notice = 0; notice < cards.notices(); notice++) {
                due2 += cards.stands(notice) ? 1 : 0;
            }
            CHECK.same("notices that stand", due2, stand);
            CHECK.same("changes", 6, cards.undoable());
            CHECK.same("what stands behind restore", due, Sight.stateOf(cards));
        }
        restoreNotices();
        restoreOutcomes();
        ShadeCards again = new ShadeCards();
        again.pass(4);
        again.save(0);
        for (int round = 0; round < 3; round++) {
            again.pass(10);
            again.restore(0);
            CHECK.same("the slot keeps it, round " + round, 4, again.time());
        }
        Check.write(again, "o0");
        again.restore(0);
        CHECK.same("the pad is not saved", 2, again.padLength());
    }

    /** Two states with two notices each, which differ in all that a notice has. */
    private static void restoreNotices() {
        ShadeCards cards = new ShadeCards();
        cards.setChimney(3, 9, 2, 2, 0);
        cards.setChimney(5, 3, 0, 2, 0);
        cards.setBias(1, 1);
        cards.save(0);
        cards.setGrey(0, 3);
        cards.watch(0, 3);
        cards.setLimit(3, 1);
        cards.pass(1);
        cards.setLimit(3, 2);
        cards.pass(1);
        cards.appeal(1);
        cards.save(1);
        cards.restore(0);
        cards.watch(1, 5);
        cards.setLimit(2, 2);
        cards.pass(2);
        cards.watch(1, -1);
        cards.watch(0, 3);
        cards.setLimit(3, 1);
        cards.pass(1);
        cards.appeal(1);
        cards.save(0);
        String[] due = {"5/10/true/1 3/10/true/3", "3/10/true/0 3/20/false/3"};
        for (int slot : new int[] {0, 1, 0, 1}) {
            CHECK.same("notices that stand", slot == 0 ? 2 : 1, cards.restore(slot));
            CHECK.same("the notices", due[slot], notice(cards, 0) + " " + notice(cards, 1));
        }
        CHECK.same("fines of 3", 10, cards.finesOf(3, true));
        CHECK.same("fines of 5", 0, cards.finesOf(5, true));
        cards.undo();
        CHECK.same("undone, the notices", due[0], notice(cards, 0) + " " + notice(cards, 1));
        CHECK.same("undone, fines of 3", 10, cards.finesOf(3, true));
        CHECK.same("undone, fines of 5", 10, cards.finesOf(5, true));
    }

    private static void restoreOutcomes() {
        ShadeCards cards = Scenes.noticed();
        cards.save(0);
        cards.undo();
        cards.setChimney(0, 5, 0, 2, 0);
        cards.setBias(0, 1);
        cards.pass(3);
        cards.save(1);
        for (int slot : new int[] {0, 1, 0, 1}) {
            cards.restore(slot);
            CHECK.same("outcome in slot " + slot, slot == 0 ? 2 : 1, cards.wouldAppeal(0));
        }
    }

    private static String notice(ShadeCards cards, int notice) {
        return cards.chimneyOf(notice) + "/" + cards.fineOf(notice) + "/" + cards.stands(notice) + "/"
                + cards.wouldAppeal(notice);
    }

    private static ShadeCards withSlot(Supplier<ShadeCards> scene) {
        ShadeCards cards = scene.get();
        cards.save(1);
        return cards;
    }

    private static void refused() {
        for (Supplier<ShadeCards> scene : SCENES) {
            for (int wrong : new int[] {-1, 2, Integer.MIN_VALUE, Integer.MAX_VALUE}) {
                CHECK.refuses("save in " + wrong, NO_SUCH, scene, x -> x.save(wrong));
                CHECK.refuses("restore of " + wrong, NO_SUCH, scene, x -> x.restore(wrong));
            }
            CHECK.refuses("restore of nothing", NOT_NOW, scene, x -> x.restore(1));
        }
        CHECK.refuses("restore of nothing", NOT_NOW, ShadeCards::new, x -> x.restore(0));
        CHECK.refuses("undo of nothing", NOT_NOW, ShadeCards::new, ShadeCards::undo);
        Supplier<ShadeCards> undone = () -> {
            ShadeCards cards = new ShadeCards();
            cards.pass(1);
            cards.undo();
            return cards;
        };
        CHECK.refuses("undo once more", NOT_NOW, undone, ShadeCards::undo);
    }
}
