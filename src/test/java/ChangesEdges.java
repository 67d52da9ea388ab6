import java.util.function.Supplier;

/** The edges of a new object and of the changes: promises 1 to 9. */
final class ChangesEdges {
    private ChangesEdges() {
    }

    static void all(Edges e) {
        newObject(e);
        setChimney(e);
        setGrey(e);
        watch(e);
        setBias(e);
        setLimit(e);
        pass(e);
        appeal(e);
        read(e);
    }

    private static void newObject(Edges e) {
        e.in("Promise 1: A new object");
        e.holds("Sets up the ridge, as told above.", () -> setUp(e));
    }

    private static void setUp(Edges e) {
        String due = Sight.of(new ShadeCards());
        Sight.of(Scenes.full());
        e.same("an object that is made behind another one was used", due, Sight.of(new ShadeCards()));
        ShadeCards cards = new ShadeCards();
        e.same("time", 0, cards.time());
        e.same("notices", 0, cards.notices());
        e.same("pad", 0, cards.padLength());
        e.same("changes", 0, cards.undoable());
        e.same("limit", 3, cards.setLimit(3, 3));
        for (int observer = 0; observer < 3; observer++) {
            e.same("the bias of " + observer + ", and 1", 1, cards.setBias(observer, 0));
        }
        e.refuses("restore of the first slot", Edges.NOT_NOW, ShadeCards::new, x -> x.restore(0));
        e.refuses("restore of the second slot", Edges.NOT_NOW, ShadeCards::new, x -> x.restore(1));
    }

    private static void setChimney(Edges e) {
        e.in("Promise 2: setChimney");
        e.holds("Changes a chimney.", () -> oneChimneyAlone(e));
        e.holds("This is a change.", () -> e.isChange(x -> x.setChimney(7, 9, 2, 12, 11)));
        e.holds("fire: 0 to 9",
                () -> e.range(0, 9, Edges.OUT_OF_RANGE, (x, value) -> x.setChimney(0, value, 2, 2, 0)));
        e.holds("damp: 0 to 2",
                () -> e.range(0, 2, Edges.OUT_OF_RANGE, (x, value) -> x.setChimney(7, 9, value, 12, 11)));
        e.holds("turn: 2 to 12",
                () -> e.range(2, 12, Edges.OUT_OF_RANGE, (x, value) -> x.setChimney(0, 0, 0, value, 0)));
        e.holds("begin: 0 to 11",
                () -> e.range(0, 11, Edges.OUT_OF_RANGE, (x, value) -> x.setChimney(7, 0, 0, 2, value)));
        e.holds("Returns its shade in the tick at hand then.", () -> shadeThen(e));
        e.holds("Throws IndexOutOfBoundsException if there is no such chimney",
                () -> e.range(0, 7, Edges.NO_SUCH, (x, value) -> x.setChimney(value, 0, 0, 2, 0)));
        e.holds("Throws IllegalArgumentException if another argument is out of range", () -> {
            e.refuses("all but the chimney", Edges.OUT_OF_RANGE, x -> x.setChimney(0, 10, 3, 13, 12));
            e.refuses("a turn of 0", Edges.OUT_OF_RANGE, x -> x.setChimney(0, 3, 0, 0, 0));
        });
    }

    private static void oneChimneyAlone(Edges e) {
        for (int changed = 0; changed < 8; changed++) {
            ShadeCards cards = new ShadeCards();
            cards.setChimney(changed, 9, 2, 12, 11);
            for (int chimney = 0; chimney < 8; chimney++) {
                boolean same = chimney != changed;
                String what = changed + " changed, of " + chimney + ": ";
                e.same(what + "beginning", same ? chimney % 4 : 11, cards.nextStoking(chimney, 0));
                e.same(what + "turn", same ? chimney % 4 + 4 : 23, cards.nextStoking(chimney, same ? 4 : 12));
                e.same(what + "shade", same ? 2 : 5, cards.shadeOf(chimney, same ? chimney % 4 : 11));
            }
        }
    }

    private static void shadeThen(Edges e) {
        ShadeCards cards = new ShadeCards();
        e.same("the first tick, stoked in it", 5, cards.setChimney(0, 9, 2, 12, 0));
        e.same("the first tick, ahead of the beginning", 0, cards.setChimney(0, 9, 2, 2, 1));
        cards.pass(95);
        e.same("the last tick, stoked in it", 5, cards.setChimney(7, 9, 0, 12, 11));
        e.same("the last tick, stoked 11 ago", 0, cards.setChimney(7, 9, 2, 12, 0));
        e.same("the last tick, stoked 1 ago", 4, cards.setChimney(7, 9, 0, 2, 0));
        cards.pass(1);
        e.same("the first tick of the next day", 0, cards.setChimney(7, 9, 0, 2, 11));
    }

    private static void setGrey(Edges e) {
        e.in("Promise 3: setGrey");
        e.holds("Sets the grey of an hour.", () -> oneHourAlone(e));
        e.holds("This is a change.", () -> e.isChange(x -> x.setGrey(23, 4)));
        e.holds("hour: 0 to 23", () -> e.range(0, 23, Edges.OUT_OF_RANGE, (x, value) -> x.setGrey(value, 4)));
        e.holds("grey: 0 to 4", () -> e.range(0, 4, Edges.OUT_OF_RANGE, (x, value) -> x.setGrey(0, value)));
        e.holds("Returns the grey before.", () -> greyBefore(e));
        e.holds("Throws IllegalArgumentException if hour or grey is out of range", () -> {
            e.refuses("both too great", Edges.OUT_OF_RANGE, x -> x.setGrey(24, 5));
            e.refuses("both too small", Edges.OUT_OF_RANGE, x -> x.setGrey(-1, -1));
            e.refuses("the hour of a tick behind the day", Edges.OUT_OF_RANGE, x -> x.setGrey(95, 0));
        });
    }

    private static void oneHourAlone(Edges e) {
        for (int changed : new int[] {0, 1, 22, 23}) {
            ShadeCards cards = new ShadeCards();
            cards.setGrey(changed, 4);
            for (int hour = 0; hour < 24; hour++) {
                e.same(changed + " set, of " + hour, hour == changed ? 4 : 0, cards.greyOf(hour));
            }
        }
    }

    private static void greyBefore(Edges e) {
        for (int hour : new int[] {0, 23}) {
            ShadeCards cards = new ShadeCards();
            e.same("at first", 0, cards.setGrey(hour, 4));
            e.same("the most", 4, cards.setGrey(hour, 4));
            e.same("the most, again", 4, cards.setGrey(hour, 0));
            e.same("the least", 0, cards.setGrey(hour, 1));
        }
    }

    private static void watch(Edges e) {
        e.in("Promise 4: watch");
        e.holds("Lets an observer watch a chimney, or rest.", () -> watchOrRest(e));
        e.holds("This is a change.", () -> e.isChange(x -> x.watch(2, 7)));
        e.holds("chimney: a chimney, or -1 to rest",
                () -> e.range(-1, 7, Edges.OUT_OF_RANGE, (x, value) -> x.watch(0, value)));
        e.holds("Returns what the observer watched, NONE if nothing.", () -> watchedBefore(e));
        e.holds("Throws IndexOutOfBoundsException if there is no such observer", () -> {
            e.range(0, 2, Edges.NO_SUCH, (x, value) -> x.watch(value, 7));
            e.range(0, 2, Edges.NO_SUCH, (x, value) -> x.watch(value, -1));
        });
        e.holds("Throws IllegalArgumentException if chimney is neither", () -> {
            e.refuses("-2", Edges.OUT_OF_RANGE, x -> x.watch(2, -2));
            e.refuses("8", Edges.OUT_OF_RANGE, x -> x.watch(2, 8));
        });
    }

    private static void watchOrRest(Edges e) {
        ShadeCards cards = new ShadeCards();
        cards.watch(0, 0);
        cards.watch(2, 0);
        e.same("the first observer, the first chimney", 0, cards.watchedBy(0));
        e.same("nobody else", -1, cards.watchedBy(1));
        e.same("the last observer, the same chimney", 0, cards.watchedBy(2));
        cards.watch(2, -1);
        cards.pass(1);
        e.same("read by the one who watches", 2, cards.readingOf(0, 0));
        e.same("who did not tire", 0, cards.tirednessOf(2));
    }

    private static void watchedBefore(Edges e) {
        for (int observer : new int[] {0, 2}) {
            ShadeCards cards = new ShadeCards();
            e.same("nothing at first", -1, cards.watch(observer, -1));
            e.same("nothing, as it rested", -1, cards.watch(observer, 0));
            e.same("the first chimney", 0, cards.watch(observer, 7));
            e.same("the last chimney", 7, cards.watch(observer, 7));
            e.same("the last chimney, again", 7, cards.watch(observer, -1));
            e.same("nothing again", -1, cards.watch(observer, 1));
        }
    }

    private static void setBias(Edges e) {
        e.in("Promise 5: setBias");
        e.holds("Sets the bias of an observer.", () -> oneBiasAlone(e));
        e.holds("This is a change.", () -> e.isChange(x -> x.setBias(2, -1)));
        e.holds("bias: -1 to 1", () -> e.range(-1, 1, Edges.OUT_OF_RANGE, (x, value) -> x.setBias(0, value)));
        e.holds("Returns the bias before, and 1, together.", () -> biasBefore(e));
        e.holds("Throws IndexOutOfBoundsException if there is no such observer",
                () -> e.range(0, 2, Edges.NO_SUCH, (x, value) -> x.setBias(value, 1)));
        e.holds("Throws IllegalArgumentException if bias is out of range", () -> {
            e.refuses("-2", Edges.OUT_OF_RANGE, x -> x.setBias(2, -2));
            e.refuses("2", Edges.OUT_OF_RANGE, x -> x.setBias(2, 2));
        });
    }

    private static void oneBiasAlone(Edges e) {
        for (int changed = 0; changed < 3; changed++) {
            for (int bias = -1; bias <= 1; bias++) {
                ShadeCards cards = new ShadeCards();
                cards.setBias(changed, bias);
                for (int observer = 0; observer < 3; observer++) {
                    int due = observer == changed ? 2 + bias : 2;
                    e.same(bias + " set for " + changed + ", " + observer, due, cards.wouldRead(observer, 0));
                }
            }
        }
    }

    private static void biasBefore(Edges e) {
        for (int observer : new int[] {0, 2}) {
            ShadeCards cards = new ShadeCards();
            e.same("0 at first", 1, cards.setBias(observer, -1));
            e.same("the least", 0, cards.setBias(observer, 1));
            e.same("the most", 2, cards.setBias(observer, 1));
            e.same("the most, again", 2, cards.setBias(observer, 0));
            e.same("0", 1, cards.setBias(observer, 0));
        }
    }

    private static void setLimit(Edges e) {
        e.in("Promise 6: setLimit");
        e.holds("Sets limit and patience, for notices that come.", () -> forThoseThatCome(e));
        e.holds("This is a change.", () -> e.isChange(x -> x.setLimit(5, 8)));
        e.holds("limit: 1 to 5", () -> e.range(1, 5, Edges.OUT_OF_RANGE, (x, value) -> x.setLimit(value, 8)));
        e.holds("patience: 1 to 8", () -> e.range(1, 8, Edges.OUT_OF_RANGE, (x, value) -> x.setLimit(5, value)));
        e.holds("Returns the limit before.", () -> limitBefore(e));
        e.holds("Throws IllegalArgumentException if limit or patience is out of range", () -> {
            e.refuses("both too great", Edges.OUT_OF_RANGE, x -> x.setLimit(6, 9));
            e.refuses("both too small", Edges.OUT_OF_RANGE, x -> x.setLimit(0, 0));
        });
    }

    private static void forThoseThatCome(Edges e) {
        ShadeCards least = Scenes.watching(1, 1);
        e.same("the least of both: a reading of 0", 0, Scenes.smoke(least, 0));
        e.same("the least of both: a reading of 1", 1, Scenes.smoke(least, 1));
        least.setLimit(5, 8);
        e.same("the notice that is there stays", 1, least.notices());
        ShadeCards most = Scenes.watching(5, 8);
        e.same("the most of both: a row of 7", 0, Scenes.smoke(most, 5, 5, 5, 5, 5, 5, 5));
        e.same("the most of both: a row of 8", 1, Scenes.smoke(most, 5));
        ShadeCards readings = Scenes.watching(5, 8);
        Scenes.smoke(readings, 1);
        readings.setLimit(1, 1);
        e.same("none comes by setting alone", 0, readings.notices());
    }

    private static void limitBefore(Edges e) {
        ShadeCards cards = new ShadeCards();
        e.same("3 at first, and not the patience", 3, cards.setLimit(5, 1));
        e.same("the most", 5, cards.setLimit(1, 8));
        e.same("the least", 1, cards.setLimit(1, 7));
        e.same("the least, again", 1, cards.setLimit(3, 2));
    }

    private static void pass(Edges e) {
        e.in("Promise 7: pass");
        e.holds("Lets ticks pass.", () -> fewestAndMostTicks(e));
        e.holds("This is a change.", () -> e.isChange(x -> x.pass(200)));
        e.holds("ticks: 1 to 200", () -> e.range(1, 200, Edges.OUT_OF_RANGE, ShadeCards::pass));
        e.holds("Returns how many notices come.", () -> noticesThatCome(e));
        e.holds("Throws IllegalArgumentException if ticks is out of range", () -> {
            e.refuses("none", Edges.OUT_OF_RANGE, x -> x.pass(0));
            e.refuses("201", Edges.OUT_OF_RANGE, x -> x.pass(201));
        });
    }

    private static void fewestAndMostTicks(Edges e) {
        ShadeCards cards = Scenes.watched();
        cards.pass(1);
        e.same("the fewest", 1, cards.time());
        e.same("tiredness", 1, cards.tirednessOf(0));
        cards.pass(200);
        e.same("the most", 201, cards.time());
        e.same("tiredness", 201, cards.tirednessOf(0));
        e.same("readings of the third day", 9, cards.readingsFrom(0, 0));
        cards.undo();
        e.same("all of them undone at once", 1, cards.time());
        for (int call = 0; call < 100; call++) {
            cards.pass(1);
        }
        ShadeCards twin = Scenes.watched();
        twin.pass(1);
        twin.pass(100);
        e.same("one by one", Sight.stateOf(twin), Sight.stateOf(cards));
    }

    private static void noticesThatCome(Edges e) {
        e.same("none", 0, new ShadeCards().pass(200));
        e.same("two ticks", 0, Scenes.watched().pass(2));
        e.same("three ticks", 1, Scenes.watched().pass(3));
        e.same("one on each of three days", 3, Scenes.watched().pass(195));
        e.same("only those that come now", 1, Scenes.noticed().pass(96));
        e.same("the last of twenty", 1, Scenes.nineteen().pass(200));
        ShadeCards three = Scenes.watching(4, 1);
        for (int observer = 0; observer < 3; observer++) {
            three.setChimney(observer, 9, 0, 8, 0);
            three.watch(observer, observer);
        }
        e.same("all twenty at once", 20, three.pass(200));
        e.same("and none more", 0, three.pass(200));
    }

    private static void appeal(Edges e) {
        e.in("Promise 8: appeal");
        e.holds("Makes an appeal against a notice.", () -> firstAndLastAppeal(e));
        e.holds("This is a change.", () -> appealIsChange(e));
        e.holds("Returns whether it is upheld.", () -> upheldOrNot(e));
        e.holds("Throws IndexOutOfBoundsException if there is no such notice", () -> e.notices(ShadeCards::appeal));
        e.holds("Throws IllegalStateException if one was made", () -> appealMade(e));
    }

    private static void firstAndLastAppeal(Edges e) {
        ShadeCards cards = Scenes.twenty();
        cards.appeal(0);
        cards.appeal(19);
        for (int notice = 0; notice < 20; notice++) {
            e.same("made against " + notice, notice % 19 == 0 ? 3 : 2, cards.wouldAppeal(notice));
        }
    }

    private static void appealIsChange(Edges e) {
        ShadeCards cards = Scenes.twenty();
        e.same("changes", 4 + 1, cards.undoable());
        for (int notice = 0; notice < 3; notice++) {
            cards.appeal(notice);
            e.same("changes, no more than 6", 6, cards.undoable());
        }
        e.same("left", 5, cards.undo());
        e.same("left", 4, cards.undo());
        e.same("left", 3, cards.undo());
        e.same("the state then", Sight.stateOf(Scenes.twenty()), Sight.stateOf(cards));
        ShadeCards grey = Scenes.watched();
        grey.setGrey(0, 3);
        grey.pass(3);
        grey.appeal(0);
        grey.undo();
        e.same("an upheld one undone", true, grey.stands(0));
        e.same("its fine", 10, grey.finesOf(0, true));
    }

    private static void upheldOrNot(Edges e) {
        e.same("no reason", false, Scenes.noticed().appeal(0));
        ShadeCards grey = Scenes.watched();
        grey.setGrey(0, 3);
        grey.pass(3);
        e.same("grey", true, grey.appeal(0));
        ShadeCards less = Scenes.watching(3, 1);
        less.setBias(0, 1);
        Scenes.smoke(less, 2);
        e.same("less", true, less.appeal(0));
    }

    private static void appealMade(Edges e) {
        e.refuses("against the first of twenty", Edges.NOT_NOW, Scenes::full, x -> x.appeal(0));
        e.refuses("against the last of twenty", Edges.NOT_NOW, Scenes::full, x -> x.appeal(19));
        e.refuses("made by a text", Edges.NOT_NOW, () -> {
            ShadeCards cards = Check.write(Scenes.noticed(), "a0");
            cards.read();
            return cards;
        }, x -> x.appeal(0));
        e.refuses("restored", Edges.NOT_NOW, () -> {
            ShadeCards cards = Scenes.noticed();
            cards.appeal(0);
            cards.save(0);
            cards.undo();
            cards.restore(0);
            return cards;
        }, x -> x.appeal(0));
        ShadeCards ahead = Scenes.noticed();
        ahead.save(0);
        ahead.appeal(0);
        ahead.restore(0);
        e.same("saved ahead of it, it can be made", false, ahead.appeal(0));
    }

    private static void read(Edges e) {
        e.in("Promise 9: read");
        e.holds("Does what the pad tells, part by part, and empties the pad.", () -> partByPart(e));
        e.holds("This is a change.", () -> readIsChange(e));
        e.holds("Returns how many notices come.", () -> noticesByText(e));
        e.holds("Throws IllegalArgumentException if the pad has a fault", () -> faultyText(e));
    }

    private static void partByPart(Edges e) {
        ShadeCards one = Check.write(new ShadeCards(), ".");
        one.read();
        e.same("one part", 1, one.time());
        e.same("the pad", 0, one.padLength());
        e.same("its fault", 0, one.fault());
        ShadeCards thirty = Check.write(new ShadeCards(), ".;".repeat(29) + ".1");
        thirty.read();
        e.same("thirty parts, a full pad", 39, thirty.time());
        e.same("the full pad", 0, thirty.padLength());
        ShadeCards order = Check.write(new ShadeCards(), "f00;f09;o00;.;f00;o01;.;r0;.");
        order.read();
        e.same("the fire of then", 5, order.readingOf(0, 0));
        e.same("another chimney then", 2, order.readingOf(1, 1));
        e.same("rest then", -1, order.readingOf(1, 2));
        ShadeCards most = Check.write(Scenes.watched(), ".9;".repeat(19) + ".9");
        most.read();
        e.same("the most ticks of a pad", 1800, most.time());
        e.same("the tiredness behind them", 1800, most.tirednessOf(0));
    }

    private static void readIsChange(Edges e) {
        for (Supplier<ShadeCards> scene : Edges.SCENES) {
            ShadeCards cards = scene.get();
            ShadeCards twin = scene.get();
            cards.wipe();
            twin.wipe();
            int before = cards.undoable();
            Check.write(cards, "o00;f09;d02;g0=4;.9;a0;r0").read();
            e.same("one change, however many parts", Math.min(6, before + 1), cards.undoable());
            e.same("left", Math.min(5, before), cards.undo());
            e.same("the state then, without the pad", Sight.stateOf(twin), Sight.stateOf(cards));
        }
        ShadeCards same = Check.write(new ShadeCards(), "r0");
        same.read();
        e.same("nothing is different, but it is a change", 1, same.undoable());
        ShadeCards passedOver = Check.write(new ShadeCards(), "a0");
        passedOver.read();
        e.same("nothing is possible, but it is a change", 1, passedOver.undoable());
    }

    private static void noticesByText(Edges e) {
        e.same("none", 0, Check.write(new ShadeCards(), ".9;.9").read());
        e.same("none, without ticks", 0, Check.write(Scenes.noticed(), "a0").read());
        e.same("two ticks", 0, Check.write(Scenes.watched(), ".;.").read());
        e.same("three ticks", 1, Check.write(Scenes.watched(), ".;.;.").read());
        e.same("only those that come now", 1, Check.write(Scenes.noticed(), ".9;.9").read());
        e.same("one that is upheld has come, too", 1, Check.write(Scenes.watched(), "g0=3;.1;a0").read());
        e.same("the last of twenty", 1, Check.write(Scenes.nineteen(), ".9;.9;.9").read());
    }

    private static void faultyText(Edges e) {
        e.refuses("an empty pad", Edges.OUT_OF_RANGE, ShadeCards::new, ShadeCards::read);
        String[] faulty = {";", "r0;", "r0;;", ".9;x", "f09;o0", ".9;g24=0", ".9;a20", ".9;.0", ".;".repeat(30)};
        for (String text : faulty) {
            e.refuses("read of " + text, Edges.OUT_OF_RANGE, () -> Check.write(Scenes.noticed(), text),
                    ShadeCards::read);
        }
        e.refuses("an emptied pad", Edges.OUT_OF_RANGE, () -> {
            ShadeCards cards = Check.write(new ShadeCards(), ".");
            cards.read();
            return cards;
        }, ShadeCards::read);
    }
}
