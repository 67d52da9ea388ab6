import java.util.List;
import java.util.function.Supplier;

/** Promises 1 to 9: a new object, and the changes. */
public final class ChangesTest {
    private static final Check CHECK = new Check("ChangesTest");
    private static final Class<?> NO_SUCH = IndexOutOfBoundsException.class;
    private static final Class<?> OUT_OF_RANGE = IllegalArgumentException.class;
    private static final Class<?> NOT_NOW = IllegalStateException.class;
    private static final List<Supplier<ShadeCards>> SCENES = List.of(ShadeCards::new, Scenes::busy);
    private static final int[] FAR = {Integer.MIN_VALUE, Integer.MAX_VALUE};

    public static void main(String[] args) {
        newObject();
        setChimney();
        setChimneyRefused();
        setGrey();
        watch();
        setBias();
        setLimit();
        setLimitWithinARow();
        passReads();
        passTires();
        passGivesNotices();
        passEndsDays();
        passStopsAtTwentyNotices();
        passRefused();
        appealNotUpheld();
        appealUpheldAsGrey();
        appealUpheldAsLess();
        appealByWhatWas();
        appealFines();
        appealRefused();
        read();
        readPassesOver();
        readRefused();
        CHECK.end();
    }

    /** Promise 1. */
    private static void newObject() {
        ShadeCards cards = new ShadeCards();
        CHECK.same("time of a new object", 0, cards.time());
        CHECK.same("notices of a new object", 0, cards.notices());
        CHECK.same("pad of a new object", 0, cards.padLength());
        CHECK.same("undoable of a new object", 0, cards.undoable());
        CHECK.same("best observer of a new object", -1, cards.bestObserver());
        CHECK.same("worst chimney of a new object", -1, cards.worstChimney());
        for (int chimney = 0; chimney < 8; chimney++) {
            int begin = chimney % 4;
            int[] due = {2, 1, 0, 0, 2};
            for (int behind = 0; behind < 5; behind++) {
                CHECK.same("shade " + behind + " behind the first stoking of " + chimney, due[behind],
                        cards.shadeOf(chimney, begin + behind));
            }
            CHECK.same("first stoking of " + chimney, begin, cards.nextStoking(chimney, 0));
            CHECK.same("second stoking of " + chimney, begin + 4, cards.nextStoking(chimney, begin + 1));
            CHECK.same("reading of " + chimney, -1, cards.readingOf(chimney, 0));
            CHECK.same("fines of " + chimney, 0, cards.finesOf(chimney, true));
        }
        for (int observer = 0; observer < 3; observer++) {
            CHECK.same("watched by " + observer, -1, cards.watchedBy(observer));
            CHECK.same("tiredness of " + observer, 0, cards.tirednessOf(observer));
            CHECK.same("errors of " + observer, 0, cards.errorsOf(observer));
            CHECK.same("bias of " + observer + ", and 1", 1, cards.setBias(observer, 1));
        }
        for (int hour = 0; hour < 24; hour++) {
            CHECK.same("grey of hour " + hour, 0, cards.greyOf(hour));
        }
        CHECK.same("damp at first: fire 0 alone gives no shade", 0, Check.write(cards, "f00").read());
        CHECK.same("shade without fire", 0, cards.shadeOf(0, 0));
        CHECK.same("limit at first", 3, cards.setLimit(1, 1));
        for (int slot = 0; slot < 2; slot++) {
            int empty = slot;
            CHECK.refuses("restore of a new object", NOT_NOW, ShadeCards::new, x -> x.restore(empty));
        }
        CHECK.refuses("undo of a new object", NOT_NOW, ShadeCards::new, ShadeCards::undo);
        ShadeCards patient = Scenes.watched();
        CHECK.same("patience at first, 2 ticks", 0, patient.pass(2));
        CHECK.same("patience at first, the third tick", 1, patient.pass(1));
    }

    /** Promise 2. */
    private static void setChimney() {
        ShadeCards cards = new ShadeCards();
        CHECK.same("hottest", 5, cards.setChimney(0, 9, 2, 12, 0));
        CHECK.same("coldest", 0, cards.setChimney(0, 0, 0, 2, 0));
        CHECK.same("fire 1", 1, cards.setChimney(0, 1, 0, 2, 0));
        CHECK.same("fire 2, rounded down", 1, cards.setChimney(0, 2, 0, 2, 0));
        CHECK.same("fire 5 and damp 1", 4, cards.setChimney(7, 5, 1, 3, 0));
        CHECK.same("ahead of the first stoking", 0, cards.setChimney(7, 9, 2, 12, 11));
        CHECK.same("in its first stoking", 5, cards.shadeOf(7, 11));
        CHECK.same("changes", 6, cards.undoable());
        CHECK.same("another chimney", 2, cards.shadeOf(4, 0));
        cards.pass(5);
        CHECK.same("tick 5, stoked 2 ago", 3, cards.setChimney(3, 9, 0, 3, 3));
        CHECK.same("tick 5, stoked 5 ago", 2, cards.setChimney(3, 9, 2, 12, 0));
        CHECK.same("tick 5, stoked in it", 5, cards.setChimney(3, 9, 0, 5, 0));
        CHECK.same("tick 5, stoked 1 ago", 4, cards.setChimney(3, 9, 0, 2, 0));
        CHECK.same("turn set", 6, cards.nextStoking(3, 5));
    }

    private static void setChimneyRefused() {
        for (Supplier<ShadeCards> scene : SCENES) {
            for (int wrong : new int[] {-1, 8, FAR[0], FAR[1]}) {
                CHECK.refuses("setChimney of " + wrong, NO_SUCH, scene, x -> x.setChimney(wrong, 1, 1, 3, 1));
                CHECK.refuses("setChimney, first no such", NO_SUCH, scene, x -> x.setChimney(wrong, 10, 3, 1, 12));
            }
            for (int wrong : new int[] {-1, 10, FAR[0], FAR[1]}) {
                CHECK.refuses("fire " + wrong, OUT_OF_RANGE, scene, x -> x.setChimney(0, wrong, 1, 3, 1));
            }
            for (int wrong : new int[] {-1, 3, FAR[0], FAR[1]}) {
                CHECK.refuses("damp " + wrong, OUT_OF_RANGE, scene, x -> x.setChimney(0, 1, wrong, 3, 1));
            }
            for (int wrong : new int[] {-1, 0, 1, 13, FAR[0], FAR[1]}) {
                CHECK.refuses("turn " + wrong, OUT_OF_RANGE, scene, x -> x.setChimney(7, 1, 1, wrong, 1));
            }
            for (int wrong : new int[] {-1, 12, FAR[0], FAR[1]}) {
                CHECK.refuses("begin " + wrong, OUT_OF_RANGE, scene, x -> x.setChimney(7, 1, 1, 3, wrong));
            }
        }
    }

    /** Promise 3. */
    private static void setGrey() {
        ShadeCards cards = new ShadeCards();
        CHECK.same("grey before, at first", 0, cards.setGrey(0, 4));
        CHECK.same("grey before", 4, cards.setGrey(0, 1));
        CHECK.same("last hour", 0, cards.setGrey(23, 3));
        CHECK.same("back to clear", 3, cards.setGrey(23, 0));
        CHECK.same("hour 0", 1, cards.greyOf(0));
        CHECK.same("hour 23", 0, cards.greyOf(23));
        CHECK.same("changes", 4, cards.undoable());
        for (Supplier<ShadeCards> scene : SCENES) {
            for (int wrong : new int[] {-1, 24, FAR[0], FAR[1]}) {
                CHECK.refuses("hour " + wrong, OUT_OF_RANGE, scene, x -> x.setGrey(wrong, 1));
            }
            for (int wrong : new int[] {-1, 5, FAR[0], FAR[1]}) {
                CHECK.refuses("grey " + wrong, OUT_OF_RANGE, scene, x -> x.setGrey(1, wrong));
            }
        }
    }

    /** Promise 4. */
    private static void watch() {
        ShadeCards cards = new ShadeCards();
        CHECK.same("watched before, at first", -1, cards.watch(2, 7));
        CHECK.same("watched before", 7, cards.watch(2, 0));
        CHECK.same("two may watch one chimney", -1, cards.watch(0, 0));
        CHECK.same("to rest", 0, cards.watch(2, -1));
        CHECK.same("to rest again", -1, cards.watch(2, -1));
        CHECK.same("rests", -1, cards.watchedBy(2));
        CHECK.same("watches on", 0, cards.watchedBy(0));
        CHECK.same("changes", 5, cards.undoable());
        for (Supplier<ShadeCards> scene : SCENES) {
            for (int wrong : new int[] {-1, 3, FAR[0], FAR[1]}) {
                CHECK.refuses("watch by " + wrong, NO_SUCH, scene, x -> x.watch(wrong, 0));
                CHECK.refuses("watch, first no such", NO_SUCH, scene, x -> x.watch(wrong, 8));
            }
            for (int wrong : new int[] {-2, 8, FAR[0], FAR[1]}) {
                CHECK.refuses("watch of " + wrong, OUT_OF_RANGE, scene, x -> x.watch(1, wrong));
            }
        }
    }

    /** Promise 5. */
    private static void setBias() {
        ShadeCards cards = new ShadeCards();
        CHECK.same("bias before, at first", 1, cards.setBias(0, -1));
        CHECK.same("bias -1 before", 0, cards.setBias(0, 1));
        CHECK.same("bias 1 before", 2, cards.setBias(0, 0));
        CHECK.same("bias of another", 1, cards.setBias(2, 1));
        CHECK.same("reads with it", 3, cards.wouldRead(2, 0));
        CHECK.same("reads without", 2, cards.wouldRead(0, 0));
        CHECK.same("changes", 4, cards.undoable());
        for (Supplier<ShadeCards> scene : SCENES) {
            for (int wrong : new int[] {-1, 3, FAR[0], FAR[1]}) {
                CHECK.refuses("bias of " + wrong, NO_SUCH, scene, x -> x.setBias(wrong, 0));
                CHECK.refuses("bias, first no such", NO_SUCH, scene, x -> x.setBias(wrong, 2));
            }
            for (int wrong : new int[] {-2, 2, FAR[0], FAR[1]}) {
                CHECK.refuses("bias " + wrong, OUT_OF_RANGE, scene, x -> x.setBias(1, wrong));
            }
        }
    }

    /** Promise 6. */
    private static void setLimit() {
        ShadeCards cards = Scenes.watched();
        CHECK.same("limit before, at first", 3, cards.setLimit(5, 8));
        CHECK.same("row of 7", 0, cards.pass(7));
        CHECK.same("row of 8", 1, cards.pass(1));
        CHECK.same("limit before", 5, cards.setLimit(1, 1));
        CHECK.same("limit before, again", 1, cards.setLimit(1, 1));
        CHECK.same("changes", 6, cards.undoable());
        for (Supplier<ShadeCards> scene : SCENES) {
            for (int wrong : new int[] {-1, 0, 6, FAR[0], FAR[1]}) {
                CHECK.refuses("limit " + wrong, OUT_OF_RANGE, scene, x -> x.setLimit(wrong, 1));
            }
            for (int wrong : new int[] {-1, 0, 9, FAR[0], FAR[1]}) {
                CHECK.refuses("patience " + wrong, OUT_OF_RANGE, scene, x -> x.setLimit(1, wrong));
            }
        }
    }

    private static void setLimitWithinARow() {
        ShadeCards longer = Scenes.watched();
        longer.setLimit(5, 8);
        longer.pass(4);
        longer.setLimit(5, 5);
        CHECK.same("a row that becomes just as long", 1, longer.pass(1));
        ShadeCards shorter = Scenes.watched();
        shorter.setLimit(5, 8);
        shorter.pass(4);
        shorter.setLimit(5, 4);
        CHECK.same("a row that is longer already", 0, shorter.pass(8));
        ShadeCards counted = Scenes.watched();
        counted.setChimney(0, 9, 0, 4, 0);
        counted.setLimit(5, 2);
        CHECK.same("5, 4, 3, 2 with the limit 5", 0, counted.pass(3));
        counted.setLimit(2, 4);
        CHECK.same("the readings before count for the limit of now", 1, counted.pass(1));
        CHECK.same("the notice keeps the limit of then", 2, counted.wouldAppeal(0));
        counted.setLimit(5, 1);
        CHECK.same("also behind another one", 2, counted.wouldAppeal(0));
    }

    /** Promise 7: step 1. */
    private static void passReads() {
        ShadeCards cards = new ShadeCards();
        cards.setBias(0, -1);
        cards.setBias(1, 1);
        cards.watch(0, 0);
        cards.watch(1, 0);
        cards.watch(2, 0);
        cards.pass(4);
        int[] greatest = {3, 2, 1, 1};
        for (int tick = 0; tick < 4; tick++) {
            CHECK.same("greatest of three in " + tick, greatest[tick], cards.readingOf(0, tick));
        }
        cards.watch(1, -1);
        cards.watch(2, 1);
        cards.pass(2);
        CHECK.same("bias -1 alone", 1, cards.readingOf(0, 4));
        CHECK.same("bias -1 alone, held to 0", 0, cards.readingOf(0, 5));
        CHECK.same("another chimney ahead of its stoking", 0, cards.readingOf(1, 4));
        CHECK.same("another chimney", 2, cards.readingOf(1, 5));
        CHECK.same("nobody watched it then", -1, cards.readingOf(1, 3));
        CHECK.same("nobody watches it", -1, cards.readingOf(7, 3));
        cards.setGrey(1, 3);
        cards.setGrey(2, 2);
        cards.setChimney(0, 7, 0, 2, 0);
        cards.setBias(0, 1);
        cards.pass(3);
        CHECK.same("grey, but a shade of 4", 5, cards.readingOf(0, 6));
        CHECK.same("grey, but a shade of 3", 4, cards.readingOf(0, 7));
        CHECK.same("grey 2 hides nothing", 5, cards.readingOf(0, 8));
        ShadeCards hidden = new ShadeCards();
        hidden.setBias(0, 1);
        hidden.setGrey(0, 3);
        hidden.watch(0, 0);
        hidden.pass(1);
        CHECK.same("grey hides a shade of 2", 0, hidden.readingOf(0, 0));
    }

    /** Promise 7: step 2. */
    private static void passTires() {
        ShadeCards cards = Scenes.watched();
        cards.pass(14);
        CHECK.same("tiredness", 14, cards.tirednessOf(0));
        CHECK.same("the twelfth reading", 5, cards.readingOf(0, 11));
        CHECK.same("the thirteenth, with the tiredness 12", 4, cards.readingOf(0, 12));
        cards.watch(0, 1);
        cards.pass(1);
        CHECK.same("tiredness behind another chimney", 15, cards.tirednessOf(0));
        cards.watch(0, -1);
        CHECK.same("no rest without a tick", 15, cards.tirednessOf(0));
        cards.watch(0, 0);
        cards.pass(1);
        CHECK.same("no rest, tired", 4, cards.readingOf(0, 15));
        cards.watch(0, -1);
        cards.pass(1);
        CHECK.same("rested", 0, cards.tirednessOf(0));
        CHECK.same("who rests, always", 0, cards.tirednessOf(2));
        cards.watch(0, 0);
        cards.pass(1);
        CHECK.same("fresh eyes", 5, cards.readingOf(0, 17));
        cards.pass(100);
        CHECK.same("tiredness goes on behind a day", 101, cards.tirednessOf(0));
    }

    /** Promise 7: step 3. */
    private static void passGivesNotices() {
        ShadeCards cards = Scenes.hot();
        cards.setChimney(5, 9, 2, 2, 0);
        cards.watch(0, 5);
        cards.watch(1, 0);
        CHECK.same("two at once", 2, cards.pass(50));
        CHECK.same("the lower chimney first", 0, cards.chimneyOf(0));
        CHECK.same("the higher chimney behind it", 5, cards.chimneyOf(1));
        CHECK.same("fine of the one", 10, cards.fineOf(0));
        CHECK.same("fine of the other", 10, cards.fineOf(1));
        cards.watch(1, -1);
        cards.pass(1);
        cards.watch(1, 0);
        CHECK.same("a new row, 2 ticks", 0, cards.pass(2));
        CHECK.same("a new row, 3 ticks", 1, cards.pass(1));
        CHECK.same("the fine has grown", 20, cards.fineOf(2));
        ShadeCards less = Scenes.watched();
        less.setChimney(0, 5, 0, 2, 0);
        CHECK.same("3, 2, 3, 2 with the limit 3", 0, less.pass(12));
        less.setLimit(2, 3);
        less.watch(0, -1);
        less.pass(2);
        less.watch(0, 0);
        CHECK.same("3, 2, 3 with the limit 2", 1, less.pass(3));
    }

    /** Promise 7: step 4. */
    private static void passEndsDays() {
        ShadeCards cards = Scenes.hot();
        cards.pass(94);
        CHECK.same("tick 94", 94, cards.time());
        cards.watch(0, 0);
        CHECK.same("rows end with the day", 0, cards.pass(4));
        CHECK.same("tick 2 of day 1", 98, cards.time());
        CHECK.same("readings of the day before go", -1, cards.readingOf(0, 95));
        CHECK.same("readings of this day", 5, cards.readingOf(0, 1));
        CHECK.same("the row of this day", 1, cards.pass(1));
        CHECK.same("readings today", 3, cards.readingsFrom(0, 0));
        cards.pass(93);
        CHECK.same("tick 0 of day 2", 192, cards.time());
        CHECK.same("no readings at the start of a day", 0, cards.readingsFrom(0, 0));
        CHECK.same("notices stay", 1, cards.notices());
        CHECK.same("errors stay, one for each of 98 readings behind the twelfth", 86, cards.errorsOf(0));
        ShadeCards anew = new ShadeCards();
        anew.setChimney(0, 9, 0, 7, 3);
        anew.watch(0, 0);
        anew.pass(100);
        CHECK.same("ahead of the first stoking of the second day", 0, anew.readingOf(0, 2));
        CHECK.same("stoked anew, read by tired eyes", 4, anew.readingOf(0, 3));
    }

    private static void passStopsAtTwentyNotices() {
        ShadeCards cards = new ShadeCards();
        cards.setChimney(2, 9, 0, 8, 0);
        cards.watch(1, 2);
        cards.setLimit(4, 1);
        CHECK.same("twelve a day", 12, cards.pass(96));
        CHECK.same("the last eight", 8, cards.pass(200));
        CHECK.same("no more", 0, cards.pass(200));
        CHECK.same("notices", 20, cards.notices());
        CHECK.same("the last fine", 200, cards.fineOf(19));
        CHECK.same("nothing more within reach", -1, cards.ticksToNotice(2));
        CHECK.same("nothing more to come", 0, cards.noticesIn(200));
        CHECK.same("each limit is mild", 1, cards.mildLimit(200));
        CHECK.same("an upheld notice", false, cards.appeal(0));
        cards.setGrey(0, 3);
        CHECK.same("makes no room", 0, cards.pass(200));
    }

    private static void passRefused() {
        for (Supplier<ShadeCards> scene : SCENES) {
            for (int wrong : new int[] {-1, 0, 201, FAR[0], FAR[1]}) {
                CHECK.refuses("pass of " + wrong, OUT_OF_RANGE, scene, x -> x.pass(wrong));
            }
        }
        ShadeCards cards = new ShadeCards();
        CHECK.same("200 ticks", 0, cards.pass(200));
        CHECK.same("time behind 200 ticks", 200, cards.time());
        CHECK.same("one change", 1, cards.undoable());
    }

    /** Promise 8. */
    private static void appealNotUpheld() {
        ShadeCards cards = Scenes.noticed();
        CHECK.same("would not be upheld", 2, cards.wouldAppeal(0));
        CHECK.same("not upheld", false, cards.appeal(0));
        CHECK.same("stands", true, cards.stands(0));
        CHECK.same("was made", 3, cards.wouldAppeal(0));
        CHECK.same("fines stay", 10, cards.finesOf(0, true));
        CHECK.same("fines stay, by notices", 10, cards.finesOf(0, false));
        CHECK.same("changes", 4, cards.undoable());
        CHECK.same("undone", 3, cards.undo());
        CHECK.same("not made any more", 2, cards.wouldAppeal(0));
    }

    private static void appealUpheldAsGrey() {
        for (int grey = 0; grey <= 4; grey++) {
            ShadeCards cards = Scenes.watched();
            cards.setGrey(0, grey);
            CHECK.same("notice in spite of grey " + grey, 1, cards.pass(3));
            CHECK.same("outcome with grey " + grey, grey >= 3 ? 0 : 2, cards.wouldAppeal(0));
            CHECK.same("upheld with grey " + grey, grey >= 3, cards.appeal(0));
            CHECK.same("stands with grey " + grey, grey < 3, cards.stands(0));
            CHECK.same("fines with grey " + grey, grey < 3 ? 10 : 0, cards.finesOf(0, true));
        }
        for (int from = 2; from <= 10; from++) {
            ShadeCards cards = Scenes.hot();
            cards.setGrey(2, 3);
            cards.pass(from);
            cards.watch(0, 0);
            cards.pass(3);
            boolean touched = from + 2 >= 8 && from <= 11;
            CHECK.same("hour 2 grey, ticks from " + from, touched ? 0 : 2, cards.wouldAppeal(0));
        }
        ShadeCards gone = Scenes.hot();
        gone.setGrey(2, 3);
        gone.pass(12);
        gone.watch(0, 0);
        gone.pass(3);
        CHECK.same("grey in the tick ahead of its own", 2, gone.wouldAppeal(0));
    }

    private static void appealUpheldAsLess() {
        ShadeCards cards = new ShadeCards();
        cards.setChimney(0, 3, 0, 2, 0);
        cards.setBias(0, 1);
        cards.watch(0, 0);
        cards.setLimit(2, 3);
        CHECK.same("3, 2, 3 read of 2, 1, 2", 1, cards.pass(3));
        CHECK.same("would be upheld", 1, cards.wouldAppeal(0));
        CHECK.same("upheld", true, cards.appeal(0));
        CHECK.same("stands no more", false, cards.stands(0));
        CHECK.same("no fines", 0, cards.finesOf(0, true));
        ShadeCards even = new ShadeCards();
        even.setChimney(0, 3, 0, 2, 0);
        even.setBias(0, 1);
        even.watch(0, 0);
        even.setLimit(3, 1);
        even.pass(1);
        CHECK.same("2 read as 3, the limit", 1, even.wouldAppeal(0));
        even.setLimit(2, 2);
        even.pass(1);
        CHECK.same("2, 1 read as 3, 2", 1, even.wouldAppeal(1));
        ShadeCards both = new ShadeCards();
        both.setChimney(0, 4, 2, 4, 0);
        both.setBias(0, 1);
        both.watch(0, 0);
        both.setLimit(4, 2);
        both.setGrey(0, 3);
        both.pass(2);
        CHECK.same("4, 3 read as 5, 4, and grey", 0, both.wouldAppeal(0));
        CHECK.same("upheld for both", true, both.appeal(0));
    }

    private static void appealByWhatWas() {
        ShadeCards cards = Scenes.noticed();
        cards.setGrey(0, 4);
        cards.setChimney(0, 0, 0, 2, 0);
        CHECK.same("neither the sky nor the fire of now", 2, cards.wouldAppeal(0));
        cards.pass(93);
        CHECK.same("also on the next day", 2, cards.wouldAppeal(0));
        CHECK.same("not upheld", false, cards.appeal(0));
        ShadeCards cleared = Scenes.watched();
        cleared.setGrey(0, 3);
        cleared.pass(3);
        cleared.setGrey(0, 0);
        cleared.pass(200);
        CHECK.same("grey as it was, days later", true, cleared.appeal(0));
        ShadeCards middle = Scenes.watched();
        middle.pass(1);
        middle.setGrey(0, 3);
        middle.pass(1);
        middle.setGrey(0, 0);
        middle.pass(1);
        CHECK.same("grey in the second of three ticks alone", 0, middle.wouldAppeal(0));
        ShadeCards cooled = Scenes.watched();
        cooled.setBias(0, 1);
        cooled.pass(1);
        cooled.setChimney(0, 3, 0, 2, 1);
        cooled.pass(1);
        cooled.setChimney(0, 9, 2, 2, 0);
        CHECK.same("5, 2 read as 3, 5", 1, cooled.pass(1));
        CHECK.same("less in the second of three ticks alone", 1, cooled.wouldAppeal(0));
    }

    private static void appealFines() {
        ShadeCards cards = Scenes.watched();
        cards.setGrey(0, 3);
        cards.setLimit(5, 1);
        cards.setChimney(0, 9, 0, 4, 0);
        CHECK.same("three notices", 3, cards.pass(10));
        CHECK.same("the third fine", 30, cards.fineOf(2));
        CHECK.same("together", 60, cards.finesOf(0, false));
        CHECK.same("the first was in a grey hour", true, cards.appeal(0));
        CHECK.same("given back", 50, cards.finesOf(0, true));
        CHECK.same("given back, by notices", 50, cards.finesOf(0, false));
        CHECK.same("the others keep their fines", 30, cards.fineOf(2));
        cards.watch(0, -1);
        cards.pass(1);
        cards.watch(0, 0);
        CHECK.same("one more", 1, cards.pass(2));
        CHECK.same("its fine counts those that stand", 30, cards.fineOf(3));
        CHECK.same("together then", 80, cards.finesOf(0, true));
    }

    private static void appealRefused() {
        CHECK.refuses("appeal without notices", NO_SUCH, ShadeCards::new, x -> x.appeal(0));
        for (int wrong : new int[] {-1, 3, 20, FAR[0], FAR[1]}) {
            CHECK.refuses("appeal against " + wrong, NO_SUCH, Scenes::busy, x -> x.appeal(wrong));
        }
        CHECK.refuses("a second appeal, in vain", NOT_NOW, Scenes::busy, x -> x.appeal(0));
        CHECK.refuses("a second appeal, upheld", NOT_NOW, Scenes::busy, x -> x.appeal(2));
    }

    /** Promise 9. */
    private static void read() {
        ShadeCards cards = Check.write(new ShadeCards(), "o00;f09;d02;g1=3;.1;a0;r0;.;o27");
        CHECK.same("notices that come", 1, cards.read());
        CHECK.same("time", 11, cards.time());
        CHECK.same("pad", 0, cards.padLength());
        CHECK.same("one change", 1, cards.undoable());
        CHECK.same("fire and damp", 5, cards.shadeOf(0, 2));
        CHECK.same("fire and damp, 3 behind", 4, cards.shadeOf(0, 3));
        CHECK.same("grey", 3, cards.greyOf(1));
        CHECK.same("read in tick 9", 5, cards.readingOf(0, 9));
        CHECK.same("rests in tick 10", -1, cards.readingOf(0, 10));
        CHECK.same("appealed", 3, cards.wouldAppeal(0));
        CHECK.same("in vain", true, cards.stands(0));
        CHECK.same("rests", -1, cards.watchedBy(0));
        CHECK.same("watches at last", 7, cards.watchedBy(2));
        CHECK.same("undone at once", 0, cards.undo());
        CHECK.same("time again", 0, cards.time());
        CHECK.same("the pad stays empty", 0, cards.padLength());
        ShadeCards ticks = Check.write(new ShadeCards(), ".;.9;.3;.");
        ticks.read();
        CHECK.same("1, 90, 30 and 1 ticks", 122, ticks.time());
        ShadeCards skies = Check.write(new ShadeCards(), "g23=4;g0=1;g10=2");
        CHECK.same("no notices come", 0, skies.read());
        CHECK.same("hour 23", 4, skies.greyOf(23));
        CHECK.same("hour 0", 1, skies.greyOf(0));
        CHECK.same("hour 10", 2, skies.greyOf(10));
        CHECK.same("hour 1", 0, skies.greyOf(1));
        ShadeCards alone = Check.write(new ShadeCards(), "d72");
        alone.read();
        CHECK.same("damp alone", 4, alone.shadeOf(7, 3));
        ShadeCards more = Check.write(Scenes.noticed(), "r0;.;o00;.1");
        CHECK.same("notices that come, besides the one that was there", 1, more.read());
        ShadeCards full = Check.write(Scenes.watched(), ".;".repeat(29) + ".9");
        CHECK.same("a full pad", 60, full.padLength());
        full.read();
        CHECK.same("29 ticks and 90", 119, full.time());
    }

    private static void readPassesOver() {
        ShadeCards cards = Check.write(Scenes.watched(), "a0;a19;.1;a0;a0;a1;f09;.");
        CHECK.same("one notice comes", 1, cards.read());
        CHECK.same("all else was done", 11, cards.time());
        CHECK.same("appealed once", 3, cards.wouldAppeal(0));
        ShadeCards grey = Check.write(Scenes.watched(), "g0=4;.1;a0;r0;.;o00;.1");
        CHECK.same("two notices come", 2, grey.read());
        CHECK.same("the first was upheld", false, grey.stands(0));
        CHECK.same("the fine of the second", 10, grey.fineOf(1));
        ShadeCards twice = Check.write(Scenes.watched(), "g0=4;.1;a0;a0;a1;a0");
        CHECK.same("one notice", 1, twice.read());
        CHECK.same("given back once", 0, twice.finesOf(0, true));
        ShadeCards none = Check.write(Scenes.watched(), "a0;a1;g0=3");
        CHECK.same("no notice to appeal against", 0, none.read());
        none.pass(3);
        CHECK.same("the one that comes then has its appeal", 0, none.wouldAppeal(0));
        CHECK.same("and its fine", 10, none.finesOf(0, true));
    }

    private static void readRefused() {
        CHECK.refuses("read of an empty pad", OUT_OF_RANGE, ShadeCards::new, ShadeCards::read);
        CHECK.refuses("read of a fault at the end", OUT_OF_RANGE, Scenes::busy, ShadeCards::read);
        for (String text : new String[] {".9;", ".9;x", ".9;o0", "f09;g24=1", ";", ".;;."}) {
            Supplier<ShadeCards> scene = () -> Check.write(Scenes.noticed(), text);
            CHECK.refuses("read of " + text, OUT_OF_RANGE, scene, ShadeCards::read);
        }
    }
}
