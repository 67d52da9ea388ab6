import java.util.List;
import java.util.function.Consumer;
import java.util.function.Supplier;

/** The edges of the document's first words: exceptions, numbers, and what stands ahead of the calls. */
final class TermsEdges {
    private record Refusal(String call, Class<?> due, Consumer<ShadeCards> made) {
    }

    private static final List<Refusal> OF_CHIMNEYS = List.of(
            new Refusal("setChimney(8, 9, 2, 12, 11)", Edges.NO_SUCH, x -> x.setChimney(8, 9, 2, 12, 11)),
            new Refusal("setChimney(7, 10, 2, 12, 11)", Edges.OUT_OF_RANGE, x -> x.setChimney(7, 10, 2, 12, 11)),
            new Refusal("setGrey(24, 4)", Edges.OUT_OF_RANGE, x -> x.setGrey(24, 4)),
            new Refusal("setGrey(23, 5)", Edges.OUT_OF_RANGE, x -> x.setGrey(23, 5)),
            new Refusal("shadeOf(8, 95)", Edges.NO_SUCH, x -> x.shadeOf(8, 95)),
            new Refusal("shadeOf(7, 96)", Edges.OUT_OF_RANGE, x -> x.shadeOf(7, 96)),
            new Refusal("nextStoking(8, 95)", Edges.NO_SUCH, x -> x.nextStoking(8, 95)),
            new Refusal("nextStoking(7, 96)", Edges.OUT_OF_RANGE, x -> x.nextStoking(7, 96)),
            new Refusal("smoke(8, 0, 95)", Edges.NO_SUCH, x -> x.smoke(8, 0, 95, true)),
            new Refusal("smoke(7, 0, 96)", Edges.OUT_OF_RANGE, x -> x.smoke(7, 0, 96, true)),
            new Refusal("greyOf(24)", Edges.OUT_OF_RANGE, x -> x.greyOf(24)));

    private static final List<Refusal> OF_OBSERVERS = List.of(
            new Refusal("watch(3, 7)", Edges.NO_SUCH, x -> x.watch(3, 7)),
            new Refusal("watch(2, 8)", Edges.OUT_OF_RANGE, x -> x.watch(2, 8)),
            new Refusal("setBias(3, 1)", Edges.NO_SUCH, x -> x.setBias(3, 1)),
            new Refusal("setBias(2, 2)", Edges.OUT_OF_RANGE, x -> x.setBias(2, 2)),
            new Refusal("watchedBy(3)", Edges.NO_SUCH, x -> x.watchedBy(3)),
            new Refusal("tirednessOf(3)", Edges.NO_SUCH, x -> x.tirednessOf(3)),
            new Refusal("wouldRead(3, 7)", Edges.NO_SUCH, x -> x.wouldRead(3, 7)),
            new Refusal("wouldRead(2, 8)", Edges.NO_SUCH, x -> x.wouldRead(2, 8)),
            new Refusal("readingOf(8, 95)", Edges.NO_SUCH, x -> x.readingOf(8, 95)),
            new Refusal("readingOf(7, 96)", Edges.OUT_OF_RANGE, x -> x.readingOf(7, 96)),
            new Refusal("readingsFrom(8, 5)", Edges.NO_SUCH, x -> x.readingsFrom(8, 5)),
            new Refusal("readingsFrom(7, 6)", Edges.OUT_OF_RANGE, x -> x.readingsFrom(7, 6)),
            new Refusal("longestRow(8, 5)", Edges.NO_SUCH, x -> x.longestRow(8, 5, true)),
            new Refusal("longestRow(7, 6)", Edges.OUT_OF_RANGE, x -> x.longestRow(7, 6, true)),
            new Refusal("errorsOf(3)", Edges.NO_SUCH, x -> x.errorsOf(3)));

    private static final List<Refusal> OF_NOTICES = List.of(
            new Refusal("setLimit(6, 8)", Edges.OUT_OF_RANGE, x -> x.setLimit(6, 8)),
            new Refusal("setLimit(5, 9)", Edges.OUT_OF_RANGE, x -> x.setLimit(5, 9)),
            new Refusal("pass(201)", Edges.OUT_OF_RANGE, x -> x.pass(201)),
            new Refusal("appeal(20)", Edges.NO_SUCH, x -> x.appeal(20)),
            new Refusal("appeal, made once", Edges.NOT_NOW, x -> x.appeal(0)),
            new Refusal("chimneyOf(20)", Edges.NO_SUCH, x -> x.chimneyOf(20)),
            new Refusal("fineOf(20)", Edges.NO_SUCH, x -> x.fineOf(20)),
            new Refusal("stands(20)", Edges.NO_SUCH, x -> x.stands(20)),
            new Refusal("wouldAppeal(20)", Edges.NO_SUCH, x -> x.wouldAppeal(20)),
            new Refusal("finesOf(8)", Edges.NO_SUCH, x -> x.finesOf(8, true)),
            new Refusal("toWatch(97)", Edges.OUT_OF_RANGE, x -> x.toWatch(97, true)),
            new Refusal("noticesIn(201)", Edges.OUT_OF_RANGE, x -> x.noticesIn(201)),
            new Refusal("ticksToNotice(8)", Edges.NO_SUCH, x -> x.ticksToNotice(8)),
            new Refusal("mildLimit(201)", Edges.OUT_OF_RANGE, x -> x.mildLimit(201)));

    private static final List<Refusal> OF_TEXTS = List.of(
            new Refusal("read of a fault", Edges.OUT_OF_RANGE, ShadeCards::read),
            new Refusal("put(0)", Edges.OUT_OF_RANGE, x -> x.put(0)),
            new Refusal("put(32)", Edges.OUT_OF_RANGE, x -> x.put(32)),
            new Refusal("put on a full pad", Edges.NOT_NOW, x -> x.put('r')),
            new Refusal("save(2)", Edges.NO_SUCH, x -> x.save(2)),
            new Refusal("restore(2)", Edges.NO_SUCH, x -> x.restore(2)),
            new Refusal("restore of nothing", Edges.NOT_NOW, x -> x.restore(1)));

    private TermsEdges() {
    }

    static void all(Edges e) {
        e.in("What it is");
        e.holds("An object is used for at most 512 calls after it has been made; what later calls answer is free.",
                () -> theMostCalls(e));
        e.in("Terms");
        e.holds("EXCEPTIONS. A method throws IndexOutOfBoundsException, if what it is asked about does not exist, "
                + "IllegalArgumentException, if another argument is out of its range, and IllegalStateException as its "
                + "words tell;", () -> refusals(e));
        e.holds("if several apply, the one that is named first in its throws clause.", () -> whichGoesFirst(e));
        e.holds("A method that throws an exception changes nothing.", () -> refusedInARow(e));
        e.holds("NONE (-1) is returned where there is nothing to tell.", () -> nothingToTell(e));
        e.holds("Everything is numbered from 0.", () -> numberedFromZero(e));
        e.holds("Sets are bit masks.", () -> sets(e));
        e.holds("Divisions are rounded down.", () -> roundedDown(e));
        e.in("Texts");
        e.holds("The constants: NONE = -1: There is nothing to tell.", () -> e.same("NONE", -1, ShadeCards.NONE));
        aheadOfTheCalls(e);
    }

    /** Twenty notices, a history and a slot full, a part of the pad: on all this stand the refusals. */
    private static ShadeCards scene() {
        ShadeCards cards = Scenes.twenty();
        cards.appeal(0);
        cards.setGrey(23, 4);
        cards.setBias(2, 1);
        cards.save(0);
        return Check.write(cards, ".;".repeat(30));
    }

    private static void theMostCalls(Edges e) {
        ShadeCards cards = Scenes.watched();
        for (int call = 3; call <= 508; call++) {
            cards.pass(200);
        }
        e.same("call 509, time", 506 * 200, cards.time());
        e.same("call 510, tiredness", 506 * 200, cards.tirednessOf(0));
        e.same("call 511, errors, one behind each of the first twelve readings", 506 * 200 - 12, cards.errorsOf(0));
        e.same("call 512, undo", 5, cards.undo());
    }

    private static void refusals(Edges e) {
        for (List<Refusal> refusals : List.of(OF_CHIMNEYS, OF_OBSERVERS, OF_NOTICES, OF_TEXTS)) {
            for (Refusal refusal : refusals) {
                e.refuses(refusal.call, refusal.due, TermsEdges::scene, refusal.made);
            }
        }
        e.refuses("undo of nothing", Edges.NOT_NOW, ShadeCards::new, ShadeCards::undo);
    }

    private static void whichGoesFirst(Edges e) {
        e.refuses("setChimney, all wrong", Edges.NO_SUCH, x -> x.setChimney(8, 10, 3, 13, 12));
        e.refuses("setChimney, all too small", Edges.NO_SUCH, x -> x.setChimney(-1, -1, -1, 1, -1));
        e.refuses("watch, both wrong", Edges.NO_SUCH, x -> x.watch(3, 8));
        e.refuses("watch, both too small", Edges.NO_SUCH, x -> x.watch(-1, -2));
        e.refuses("setBias, both wrong", Edges.NO_SUCH, x -> x.setBias(3, 2));
        e.refuses("setBias, both too small", Edges.NO_SUCH, x -> x.setBias(-1, -2));
        e.refuses("shadeOf, both wrong", Edges.NO_SUCH, x -> x.shadeOf(8, 96));
        e.refuses("nextStoking, both wrong", Edges.NO_SUCH, x -> x.nextStoking(8, 96));
        e.refuses("smoke, all wrong", Edges.NO_SUCH, x -> x.smoke(8, 96, 95, false));
        e.refuses("smoke, all wrong, by turns", Edges.NO_SUCH, x -> x.smoke(-1, -1, -2, true));
        e.refuses("readingOf, both wrong", Edges.NO_SUCH, x -> x.readingOf(8, 96));
        e.refuses("readingsFrom, both wrong", Edges.NO_SUCH, x -> x.readingsFrom(8, 6));
        e.refuses("longestRow, both wrong", Edges.NO_SUCH, x -> x.longestRow(8, 6, false));
        e.refuses("longestRow, both wrong, by rows", Edges.NO_SUCH, x -> x.longestRow(-1, -1, true));
        Supplier<ShadeCards> full = Scenes::full;
        e.refuses("put, no character on a full pad", Edges.OUT_OF_RANGE, full, x -> x.put(0));
        e.refuses("put, a code too small on a full pad", Edges.OUT_OF_RANGE, full, x -> x.put(32));
        e.refuses("put, a code too great on a full pad", Edges.OUT_OF_RANGE, full, x -> x.put(127));
        e.refuses("put, a bit too many on a full pad", Edges.OUT_OF_RANGE, full, x -> x.put(0x10021L));
    }

    private static void refusedInARow(Edges e) {
        ShadeCards cards = scene();
        int refused = 0;
        for (List<Refusal> refusals : List.of(OF_CHIMNEYS, OF_OBSERVERS, OF_NOTICES, OF_TEXTS)) {
            for (Refusal refusal : refusals) {
                refused += Sight.answer(() -> {
                    refusal.made.accept(cards);
                    return "";
                }).toString().isEmpty() ? 0 : 1;
            }
        }
        e.same("calls that were refused", 47, refused);
        e.same("what stands behind them", Sight.of(scene()), Sight.of(cards));
    }

    private static void nothingToTell(Edges e) {
        ShadeCards cards = new ShadeCards();
        e.same("watched before, by who rested", ShadeCards.NONE, cards.watch(0, -1));
        e.same("watched by who rests", ShadeCards.NONE, cards.watchedBy(0));
        e.same("no reading", ShadeCards.NONE, cards.readingOf(0, 0));
        e.same("nobody has read", ShadeCards.NONE, cards.bestObserver());
        e.same("no notice stands", ShadeCards.NONE, cards.worstChimney());
        e.same("nobody watches, so no notice comes", ShadeCards.NONE, cards.ticksToNotice(0));
        e.same("not stoked any more", ShadeCards.NONE, cards.nextStoking(0, 93));
        e.same("each limit gives a notice", ShadeCards.NONE, Scenes.watched().mildLimit(3));
        e.same("no fault", ShadeCards.NONE, Check.write(cards, "r0").fault());
    }

    private static void numberedFromZero(Edges e) {
        ShadeCards cards = Scenes.noticed();
        e.same("chimney 0, tick 0", 5, cards.shadeOf(0, 0));
        e.same("observer 0 watches chimney 0", 0, cards.watchedBy(0));
        e.same("the reading of tick 0", 5, cards.readingOf(0, 0));
        e.same("notice 0", 0, cards.chimneyOf(0));
        e.same("slot 0", 1, cards.save(0));
        e.same("hour 0", 0, cards.setGrey(0, 4));
        e.same("character 0", 0, Check.write(cards, "x").fault());
    }

    private static void sets(Edges e) {
        for (boolean byPicking : Edges.WAYS) {
            ShadeCards cards = new ShadeCards();
            for (int chimney : new int[] {0, 6, 7}) {
                cards.setChimney(chimney, 9, 2, 2, 0);
            }
            e.same("the chimneys 0, 6 and 7", 1 + 64 + 128, cards.toWatch(96, byPicking));
        }
    }

    private static void roundedDown(Edges e) {
        ShadeCards cards = new ShadeCards();
        int[] due = {0, 1, 1, 2, 2, 3, 3, 4, 4, 5};
        for (int fire = 0; fire <= 9; fire++) {
            e.same("the shade of the fire " + fire, due[fire], cards.setChimney(0, fire, 0, 2, 0));
        }
    }

    private static void aheadOfTheCalls(Edges e) {
        e.holds("Ahead of the calls setChimney, setGrey, watch, setBias, setLimit, pass, appeal, read the interface "
                + "says: ---- changes.", () -> eightChanges(e));
        e.holds("Ahead of the calls shadeOf, nextStoking, smoke, greyOf, time the interface says: ---- chimneys, the "
                + "sky; nothing changes.", () -> e.isQuestion(TermsEdges::askChimneys));
        e.holds("Ahead of the calls watchedBy, tirednessOf, wouldRead, readingOf, readingsFrom, longestRow, errorsOf, "
                + "bestObserver the interface says: ---- observers, readings; nothing changes.",
                () -> e.isQuestion(TermsEdges::askObservers));
        e.holds("Ahead of the calls notices, chimneyOf, fineOf, stands, wouldAppeal, finesOf, worstChimney the "
                + "interface says: ---- notices, fines; nothing changes.", () -> e.isQuestion(TermsEdges::askNotices));
        e.holds("Ahead of the calls toWatch, noticesIn, ticksToNotice, mildLimit the interface says: ---- what is to "
                + "come; nothing changes.", () -> e.isQuestion(TermsEdges::askWhatIsToCome));
        e.holds("Ahead of the calls put, wipe, padLength, fault the interface says: ---- texts.",
                () -> noChange(e, TermsEdges::useThePad));
        e.holds("Ahead of the calls undo, undoable, save, restore the interface says: ---- undo, saving.",
                () -> noChange(e, TermsEdges::saveBoth));
    }

    private static void eightChanges(Edges e) {
        ShadeCards cards = Scenes.noticed();
        e.same("setChimney, watch, pass", 3, cards.undoable());
        cards.appeal(0);
        e.same("appeal", 4, cards.undoable());
        Check.write(cards, ".").read();
        e.same("read", 5, cards.undoable());
        ShadeCards others = new ShadeCards();
        others.setGrey(0, 0);
        others.setBias(0, 0);
        others.setLimit(3, 3);
        e.same("setGrey, setBias, setLimit", 3, others.undoable());
    }

    private static void noChange(Edges e, Consumer<ShadeCards> calls) {
        for (Supplier<ShadeCards> scene : Edges.SCENES) {
            ShadeCards cards = scene.get();
            int before = cards.undoable();
            calls.accept(cards);
            e.same("changes behind it", before, cards.undoable());
        }
    }

    private static void useThePad(ShadeCards cards) {
        cards.wipe();
        cards.put('.');
        cards.padLength();
        cards.fault();
    }

    private static void saveBoth(ShadeCards cards) {
        cards.save(0);
        cards.save(1);
        cards.undoable();
    }

    private static void askChimneys(ShadeCards cards) {
        cards.shadeOf(0, 95);
        cards.nextStoking(7, 95);
        cards.smoke(2, 0, 95, false);
        cards.smoke(2, 0, 95, true);
        cards.greyOf(23);
        cards.time();
    }

    private static void askObservers(ShadeCards cards) {
        cards.watchedBy(1);
        cards.tirednessOf(1);
        cards.wouldRead(1, 2);
        cards.readingOf(2, 0);
        cards.readingsFrom(2, 0);
        cards.longestRow(2, 0, false);
        cards.longestRow(2, 0, true);
        cards.errorsOf(1);
        cards.bestObserver();
    }

    private static void askNotices(ShadeCards cards) {
        for (int notice = 0; notice < cards.notices(); notice++) {
            cards.chimneyOf(notice);
            cards.fineOf(notice);
            cards.stands(notice);
            cards.wouldAppeal(notice);
        }
        cards.finesOf(2, false);
        cards.finesOf(2, true);
        cards.worstChimney();
    }

    private static void askWhatIsToCome(ShadeCards cards) {
        cards.toWatch(96, false);
        cards.toWatch(96, true);
        cards.noticesIn(200);
        cards.ticksToNotice(2);
        cards.mildLimit(200);
    }
}
