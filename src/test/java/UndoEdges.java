import java.util.List;
import java.util.function.Consumer;
import java.util.function.Supplier;

/** The edges of undo and of saved states: promises 38 to 41. */
final class UndoEdges {
    private UndoEdges() {
    }

    static void all(Edges e) {
        undo(e);
        undoable(e);
        save(e);
        restore(e);
    }

    private static void undo(Edges e) {
        e.in("Promise 38: undo");
        e.holds("Undoes the latest change:", () -> latestFirst(e));
        e.holds("everything except the pad, the slots and the history is as it was before it.", () -> asItWas(e));
        e.holds("A history of at most 6 states is kept:", () -> sixStates(e));
        e.holds("each method that is a change, and throws no exception, records the state before it", () -> records(e));
        e.holds("(also if nothing is different then);", () -> nothingDifferent(e));
        e.holds("when one more is recorded, the oldest one is dropped.", () -> oldestDropped(e));
        e.holds("Returns how many changes can be undone then.", () -> {
            ShadeCards cards = new ShadeCards();
            cards.pass(1);
            cards.pass(1);
            e.same("one is left", 1, cards.undo());
            e.same("none is left", 0, cards.undo());
            e.same("five of six are left", 5, Scenes.full().undo());
        });
        e.holds("Throws IllegalStateException if there is none", () -> noneToUndo(e));
    }

    private static void latestFirst(Edges e) {
        ShadeCards cards = new ShadeCards();
        cards.setGrey(0, 1);
        cards.setGrey(0, 2);
        cards.setGrey(0, 3);
        cards.undo();
        e.same("the latest", 2, cards.greyOf(0));
        cards.setGrey(0, 4);
        cards.undo();
        e.same("the one made since then", 2, cards.greyOf(0));
        cards.undo();
        e.same("the one ahead of it", 1, cards.greyOf(0));
        cards.undo();
        e.same("the first", 0, cards.greyOf(0));
    }

    private static void asItWas(Edges e) {
        List<Consumer<ShadeCards>> changes = List.of(x -> x.setChimney(2, 0, 2, 12, 11), x -> x.setGrey(23, 4),
                x -> x.watch(0, 7), x -> x.watch(1, -1), x -> x.setBias(1, 1), x -> x.setLimit(1, 8), x -> x.pass(1),
                x -> x.pass(200), x -> x.restore(0), x -> x.appeal(1));
        for (Consumer<ShadeCards> change : changes) {
            for (Supplier<ShadeCards> scene : List.<Supplier<ShadeCards>>of(Scenes::busy, Scenes::full)) {
                ShadeCards cards = scene.get();
                change.accept(cards);
                cards.undo();
                e.same("the state, and the pad", Sight.stateOf(scene.get()), Sight.stateOf(cards));
            }
        }
        for (boolean bySlot : Edges.WAYS) {
            shadesOfThen(e, bySlot);
            skyOfThen(e, bySlot);
            restAndReadings(e, bySlot);
        }
        padAndSlotsStay(e);
    }

    /** A row goes on behind the undo, or the restore, though a later day has had its own shades in the same ticks. */
    private static void shadesOfThen(Edges e, boolean bySlot) {
        ShadeCards cards = Scenes.watching(3, 3);
        cards.setBias(0, 1);
        Scenes.smoke(cards, 2, 3);
        cards.save(0);
        cards.setChimney(0, 9, 2, 2, 0);
        cards.pass(96);
        goBack(cards, bySlot);
        e.same("the third of the row", 1, Scenes.smoke(cards, 3));
        e.same("less in the first of the row", 1, cards.wouldAppeal(0));
    }

    private static void skyOfThen(Edges e, boolean bySlot) {
        ShadeCards cards = Scenes.watched();
        cards.setGrey(0, 3);
        cards.pass(2);
        cards.save(0);
        cards.setGrey(0, 0);
        cards.pass(96);
        goBack(cards, bySlot);
        cards.setGrey(0, 0);
        e.same("the third of the row", 1, cards.pass(1));
        e.same("grey in the first two of the row", 0, cards.wouldAppeal(0));
    }

    /** Observer 0 has read well, and has rested since; observer 1 has read, rested, and reads again. */
    private static void restAndReadings(Edges e, boolean bySlot) {
        ShadeCards cards = Scenes.watched();
        cards.setBias(1, -1);
        cards.watch(1, 0);
        cards.pass(9);
        cards.watch(0, -1);
        cards.watch(1, -1);
        cards.pass(1);
        cards.watch(1, 0);
        cards.pass(2);
        cards.save(0);
        cards.watch(0, 0);
        cards.pass(96);
        goBack(cards, bySlot);
        e.same("who rests is not tired", 0, cards.tirednessOf(0));
        e.same("the tiredness since the rest", 2, cards.tirednessOf(1));
        e.same("the readings ahead of the rest count", 0, cards.bestObserver());
        e.same("the errors of the one", 0, cards.errorsOf(0));
        e.same("the errors of the other", 11, cards.errorsOf(1));
        cards.setBias(0, -1);
        cards.watch(0, 0);
        cards.watch(1, -1);
        cards.pass(9);
        e.same("9 of 18 and 11 of 11", 0, cards.bestObserver());
        cards.setBias(1, 0);
        cards.watch(1, 0);
        cards.pass(1);
        cards.watch(0, -1);
        cards.pass(11);
        e.same("10 of 19 and 11 of 23", 1, cards.bestObserver());
    }

    private static void goBack(ShadeCards cards, boolean bySlot) {
        if (bySlot) {
            cards.restore(0);
        } else {
            cards.undo();
            cards.undo();
        }
    }

    private static void padAndSlotsStay(Edges e) {
        ShadeCards kept = Scenes.noticed();
        kept.save(1);
        Check.write(kept, ".");
        kept.read();
        kept.save(0);
        Check.write(kept, "r0");
        e.same("the history is one shorter", 3, kept.undo());
        e.same("the pad is not as it was", 2, kept.padLength());
        e.same("nor its text", -1, kept.fault());
        kept.restore(0);
        e.same("nor the first slot", 4, kept.time());
        kept.restore(1);
        e.same("nor the second slot", 3, kept.time());
    }

    private static void sixStates(Edges e) {
        ShadeCards cards = new ShadeCards();
        for (int change = 1; change <= 20; change++) {
            cards.pass(1);
            e.same("behind " + change, Math.min(6, change), cards.undoable());
        }
        for (int left = 5; left >= 0; left--) {
            e.same("left", left, cards.undo());
            e.same("time", 14 + left, cards.time());
        }
        e.refuses("the seventh undo", Edges.NOT_NOW, () -> {
            ShadeCards full = Scenes.full();
            for (int undone = 0; undone < 6; undone++) {
                full.undo();
            }
            return full;
        }, ShadeCards::undo);
    }

    private static void records(Edges e) {
        ShadeCards cards = Scenes.full();
        cards.undo();
        cards.undo();
        e.same("four of six", 4, cards.undoable());
        List<Consumer<ShadeCards>> refused = List.of(x -> x.setChimney(8, 0, 0, 2, 0), x -> x.setGrey(24, 0),
                x -> x.watch(3, 0), x -> x.setBias(0, 2), x -> x.setLimit(0, 1), x -> x.pass(0), x -> x.appeal(20),
                x -> x.appeal(0), x -> x.restore(2));
        for (Consumer<ShadeCards> call : refused) {
            Sight.answer(() -> {
                call.accept(cards);
                return "";
            });
            e.same("a refused one records nothing", 4, cards.undoable());
        }
        cards.wipe();
        e.same("refused", "throws.IllegalArgumentException", Sight.answer(cards::read));
        e.same("nor does a refused text", 4, cards.undoable());
        cards.pass(1);
        e.same("one that is not refused does", 5, cards.undoable());
        Check.write(cards, ".").read();
        e.same("so does a text", 6, cards.undoable());
    }

    private static void nothingDifferent(Edges e) {
        List<Consumer<ShadeCards>> changes = List.of(x -> x.setChimney(0, 3, 0, 4, 0), x -> x.setGrey(0, 0),
                x -> x.watch(0, -1), x -> x.setBias(0, 0), x -> x.setLimit(3, 3), x -> Check.write(x, "r0").read());
        ShadeCards cards = new ShadeCards();
        int made = 0;
        for (Consumer<ShadeCards> change : changes) {
            change.accept(cards);
            made++;
            e.same("changes", made, cards.undoable());
        }
        ShadeCards restored = new ShadeCards();
        restored.save(0);
        restored.restore(0);
        e.same("a restore of what is there", 1, restored.undoable());
    }

    private static void oldestDropped(Edges e) {
        ShadeCards cards = new ShadeCards();
        for (int grey = 1; grey <= 4; grey++) {
            cards.setGrey(0, grey);
        }
        cards.setGrey(1, 1);
        cards.setGrey(1, 2);
        e.same("six", 6, cards.undoable());
        cards.setGrey(1, 3);
        e.same("still six", 6, cards.undoable());
        for (int undone = 0; undone < 6; undone++) {
            cards.undo();
        }
        e.same("the first change stays", 1, cards.greyOf(0));
        e.same("all others are undone", 0, cards.greyOf(1));
        e.same("nothing more to undo", "throws.IllegalStateException", Sight.answer(cards::undo));
        cards.setGrey(0, 4);
        e.same("a change behind them", 1, cards.undoable());
        cards.undo();
        e.same("it is undone alone", 1, cards.greyOf(0));
    }

    private static void noneToUndo(Edges e) {
        e.refuses("a new object", Edges.NOT_NOW, ShadeCards::new, ShadeCards::undo);
        e.refuses("all undone", Edges.NOT_NOW, () -> {
            ShadeCards cards = new ShadeCards();
            cards.pass(1);
            cards.undo();
            return cards;
        }, ShadeCards::undo);
        e.refuses("saved, but not changed", Edges.NOT_NOW, () -> {
            ShadeCards cards = Check.write(new ShadeCards(), "r0");
            cards.save(0);
            cards.wipe();
            return cards;
        }, ShadeCards::undo);
    }

    private static void undoable(Edges e) {
        e.in("Promise 39: undoable");
        e.holds("Returns how many changes can be undone.", () -> {
            ShadeCards cards = new ShadeCards();
            e.same("none", 0, cards.undoable());
            cards.pass(1);
            e.same("one", 1, cards.undoable());
            e.same("asking takes none", 1, cards.undoable());
            for (int change = 2; change <= 5; change++) {
                cards.pass(1);
            }
            e.same("five", 5, cards.undoable());
            cards.pass(1);
            e.same("six", 6, cards.undoable());
            cards.pass(1);
            e.same("no more than six", 6, cards.undoable());
            cards.undo();
            e.same("five again", 5, cards.undoable());
        });
    }

    private static void save(Edges e) {
        e.in("Promise 40: save");
        e.holds("Saves everything except the pad, the history and the slots in a slot,", () -> savedState(e));
        e.holds("and overwrites what was saved there.", () -> overwritten(e));
        e.holds("slot: 0 or 1", () -> bothSlots(e));
        e.holds("Returns how many notices stand.", () -> {
            e.same("none", 0, new ShadeCards().save(0));
            e.same("one", 1, Scenes.noticed().save(0));
            e.same("all twenty", 20, Scenes.twenty().save(1));
            e.same("nineteen of twenty, as one was upheld", 19, Scenes.full().save(1));
        });
        e.holds("Throws IndexOutOfBoundsException if there is no such slot",
                () -> e.range(0, 1, Edges.NO_SUCH, ShadeCards::save));
    }

    private static void savedState(Edges e) {
        for (Supplier<ShadeCards> scene : Edges.SCENES) {
            for (int slot = 0; slot <= 1; slot++) {
                ShadeCards cards = scene.get();
                int undoable = cards.undoable();
                int length = cards.padLength();
                cards.save(slot);
                e.same("no change", undoable, cards.undoable());
                e.same("the pad stays", length, cards.padLength());
                cards.setChimney(2, 1, 1, 5, 7);
                cards.setGrey(22, 1);
                cards.watch(2, 3);
                cards.setBias(2, -1);
                cards.setLimit(2, 2);
                cards.pass(200);
                cards.restore(slot);
                e.same("the state", Sight.stateOf(scene.get()), Sight.stateOf(cards));
            }
        }
        ShadeCards pad = Check.write(new ShadeCards(), "r0");
        pad.save(0);
        pad.wipe();
        Check.write(pad, "r0;r1");
        pad.restore(0);
        e.same("the pad is not saved", 5, pad.padLength());
        ShadeCards slots = new ShadeCards();
        slots.save(0);
        slots.pass(1);
        slots.save(1);
        slots.restore(0);
        slots.restore(1);
        e.same("the slots are not saved", 1, slots.time());
    }

    private static void overwritten(Edges e) {
        for (int slot = 0; slot <= 1; slot++) {
            ShadeCards cards = Scenes.noticed();
            cards.save(slot);
            cards.undo();
            cards.pass(1);
            cards.setGrey(0, 4);
            cards.save(slot);
            cards.pass(5);
            cards.restore(slot);
            e.same("the time of the later one", 1, cards.time());
            e.same("its sky", 4, cards.greyOf(0));
            e.same("its notices", 0, cards.notices());
        }
    }

    private static void bothSlots(Edges e) {
        ShadeCards cards = new ShadeCards();
        cards.save(0);
        cards.pass(7);
        cards.save(1);
        cards.pass(9);
        cards.restore(0);
        e.same("the first", 0, cards.time());
        cards.restore(1);
        e.same("the second", 7, cards.time());
        cards.save(0);
        cards.pass(1);
        cards.restore(0);
        e.same("the first, written anew", 7, cards.time());
    }

    private static void restore(Edges e) {
        e.in("Promise 41: restore");
        e.holds("Restores what was saved last in a slot,", () -> {
            savedLast(e);
            otherNotices(e);
        });
        e.holds("which keeps it.", () -> keepsIt(e));
        e.holds("This is a change.", () -> restoreIsChange(e));
        e.holds("slot: 0 or 1", () -> bothSlotsFilled(e));
        e.holds("Returns how many notices stand then.", () -> standThen(e));
        e.holds("Throws IndexOutOfBoundsException if there is no such slot", () -> {
            for (int wrong : new int[] {-1, 2, Integer.MIN_VALUE, Integer.MAX_VALUE}) {
                e.refuses("slot " + wrong, Edges.NO_SUCH, x -> x.restore(wrong));
            }
        });
        e.holds("Throws IllegalStateException if nothing was saved in it", () -> nothingSaved(e));
    }

    private static void savedLast(Edges e) {
        ShadeCards cards = new ShadeCards();
        cards.save(1);
        cards.pass(95);
        cards.save(1);
        cards.undo();
        cards.restore(1);
        e.same("the last tick of the day", 95, cards.time());
        cards.pass(1);
        e.same("goes on from there", 96, cards.time());
        ShadeCards row = Scenes.watched();
        row.pass(2);
        row.save(0);
        row.pass(94);
        row.restore(0);
        e.same("the readings of the row are back", 1, row.pass(1));
        ShadeCards twenty = Scenes.nineteen();
        twenty.save(0);
        twenty.pass(8);
        twenty.restore(0);
        e.same("the place of the twentieth is back", 1, twenty.pass(8));
    }

    /** The two slots have notices that differ in all that a notice has. */
    private static void otherNotices(Edges e) {
        ShadeCards cards = Scenes.watching(4, 1);
        cards.save(1);
        cards.setGrey(0, 3);
        Scenes.smoke(cards, 4, 0, 0, 0, 4, 0, 4);
        cards.appeal(2);
        cards.save(0);
        cards.restore(1);
        cards.watch(1, 7);
        cards.setBias(1, 1);
        cards.setChimney(7, 5, 0, 12, 0);
        Scenes.smoke(cards, 0);
        cards.setBias(0, 1);
        Scenes.smoke(cards, 3, 0);
        cards.setBias(0, 0);
        Scenes.smoke(cards, 4);
        cards.save(1);
        String[] due = {"0/10/true/0 0/20/true/2 0/30/true/3", "7/10/true/1 0/10/true/1 0/20/true/2"};
        for (int slot : new int[] {0, 1, 0, 1}) {
            cards.restore(slot);
            e.same("the notices of slot " + slot, due[slot], threeNotices(cards));
        }
        cards.undo();
        e.same("undone, those of slot 0", due[0], threeNotices(cards));
    }

    private static String threeNotices(ShadeCards cards) {
        return notice(cards, 0) + " " + notice(cards, 1) + " " + notice(cards, 2);
    }

    private static String notice(ShadeCards cards, int notice) {
        return cards.chimneyOf(notice) + "/" + cards.fineOf(notice) + "/" + cards.stands(notice) + "/"
                + cards.wouldAppeal(notice);
    }

    private static void keepsIt(Edges e) {
        for (int slot = 0; slot <= 1; slot++) {
            ShadeCards cards = Scenes.noticed();
            cards.save(slot);
            for (int round = 0; round < 3; round++) {
                cards.appeal(0);
                cards.setGrey(3, 4);
                cards.pass(200);
                cards.restore(slot);
                e.same("the state, round " + round, "3 true 2 0", cards.time() + " " + cards.stands(0) + " "
                        + cards.wouldAppeal(0) + " " + cards.greyOf(3));
            }
            cards.undo();
            e.same("undone", 203, cards.time());
            cards.restore(slot);
            e.same("once more", 3, cards.time());
        }
    }

    private static void restoreIsChange(Edges e) {
        for (Supplier<ShadeCards> scene : Edges.SCENES) {
            ShadeCards cards = scene.get();
            cards.save(1);
            e.same("save is none", scene.get().undoable(), cards.undoable());
            cards.pass(5);
            int before = cards.undoable();
            cards.restore(1);
            e.same("one more", Math.min(6, before + 1), cards.undoable());
            e.same("left", Math.min(5, before), cards.undo());
            ShadeCards twin = scene.get();
            twin.pass(5);
            e.same("the state ahead of it", Sight.stateOf(twin), Sight.stateOf(cards));
        }
    }

    private static void bothSlotsFilled(Edges e) {
        for (int slot = 0; slot <= 1; slot++) {
            ShadeCards cards = Scenes.full();
            cards.restore(slot);
            e.same("slot " + slot, slot == 0 ? 145 : 185, cards.time());
        }
    }

    private static void standThen(Edges e) {
        ShadeCards cards = new ShadeCards();
        cards.save(1);
        e.same("none", 0, cards.restore(1));
        ShadeCards full = Scenes.full();
        e.same("nineteen of nineteen", 19, full.restore(0));
        e.same("twenty of twenty", 20, full.restore(1));
        full.appeal(19);
        full.save(0);
        full.undo();
        e.same("nineteen of twenty", 19, full.restore(0));
    }

    private static void nothingSaved(Edges e) {
        for (int slot = 0; slot <= 1; slot++) {
            int empty = slot;
            e.refuses("a new object, slot " + slot, Edges.NOT_NOW, ShadeCards::new, x -> x.restore(empty));
            e.refuses("only the other one was saved, slot " + slot, Edges.NOT_NOW, () -> {
                ShadeCards cards = Scenes.noticed();
                cards.save(1 - empty);
                return cards;
            }, x -> x.restore(empty));
        }
        ShadeCards undone = new ShadeCards();
        undone.pass(1);
        undone.save(0);
        undone.undo();
        e.same("undo does not empty a slot", 0, undone.restore(0));
        e.same("its time", 1, undone.time());
    }
}
