/** The edges of ticks that pass, of notices and of appeals, as the terms tell them. */
final class TicksEdges {
    private TicksEdges() {
    }

    static void all(Edges e) {
        e.in("Ticks");
        e.holds("There is a day, 0 at first, and a tick at hand, 0 at first.", () -> firstTick(e));
        e.holds("When a tick passes: 1. Each observer who watches reads; the reading of a chimney in this tick is the "
                + "greatest of those of its observers;", () -> greatestReading(e));
        e.holds("it has none, if nobody watches it.", () -> nobodyWatches(e));
        e.holds("2. The tiredness of those who watch becomes 1 more,", () -> tireBehindTheReading(e));
        e.holds("that of those who rest 0.", () -> rest(e));
        e.holds("3. Each chimney, by rising numbers, gets a notice,", () -> byRisingNumbers(e));
        e.holds("if the number of readings in a row up to this tick,", () -> brokenRows(e));
        e.holds("one in each tick of the day,", () -> rowsAtTheDaysEnd(e));
        e.holds("that are the limit of now or more (1 to 5; 3 at first),", () -> limits(e));
        e.holds("is just the patience (1 to 8; 3 at first),", () -> patiences(e));
        e.holds("and there are fewer than 20 notices.", () -> twentyNotices(e));
        e.holds("4. The next tick is at hand; behind the tick 95 the tick 0 of the next day,", () -> theDaysEnd(e));
        e.holds("and all readings of the day go.", () -> readingsGo(e));
        e.holds("Notices are numbered from 0 in the order in which they came;", () -> orderOfNotices(e));
        e.holds("each has a chimney, a day and a tick, the limit and the patience of then,", () -> limitOfThen(e));
        e.holds("and a fine: 10 times the number of notices that stand of this chimney, it among them.",
                () -> growingFines(e));
        e.holds("A notice stands, until an appeal against it is upheld.", () -> standsUntil(e));
        e.holds("An appeal against a notice is made once.", () -> madeOnce(e));
        e.holds("It is upheld, if in one of its ticks, as many as its patience tells, up to its own,",
                () -> ticksOfANotice(e));
        e.holds("the grey was 3 or more (as the sky was in each of them),", () -> greyOfThen(e));
        e.holds("or the shade was less than its limit (as it was then).", () -> shadeOfThen(e));
        e.holds("The fine is given back then.", () -> givenBack(e));
    }

    private static void firstTick(Edges e) {
        ShadeCards cards = new ShadeCards();
        e.same("time", 0, cards.time());
        cards.watch(0, 0);
        cards.pass(1);
        e.same("the first reading is of the tick 0", 2, cards.readingOf(0, 0));
    }

    private static void greatestReading(Edges e) {
        int[][] orders = {{-1, 0, 1}, {-1, 1, 0}, {0, -1, 1}, {0, 1, -1}, {1, -1, 0}, {1, 0, -1}};
        for (int[] biases : orders) {
            ShadeCards cards = new ShadeCards();
            for (int observer = 0; observer < 3; observer++) {
                cards.setBias(observer, biases[observer]);
                cards.watch(observer, 0);
            }
            cards.pass(1);
            e.same("the greatest of 1, 2 and 3", 3, cards.readingOf(0, 0));
        }
        ShadeCards apart = new ShadeCards();
        apart.setBias(0, 1);
        apart.setBias(2, -1);
        apart.watch(0, 4);
        apart.watch(2, 0);
        apart.pass(1);
        e.same("of its own observers alone", 1, apart.readingOf(0, 0));
        e.same("of its own observer alone", 3, apart.readingOf(4, 0));
    }

    private static void nobodyWatches(Edges e) {
        ShadeCards cards = new ShadeCards();
        cards.watch(0, 7);
        cards.pass(1);
        for (int chimney = 0; chimney < 7; chimney++) {
            e.same("none of " + chimney, -1, cards.readingOf(chimney, 0));
        }
        e.same("the reading of a cold one", 0, cards.readingOf(7, 0));
        cards.watch(0, -1);
        cards.pass(1);
        e.same("none, as its observer rests", -1, cards.readingOf(7, 1));
    }

    private static void tireBehindTheReading(Edges e) {
        ShadeCards cards = Scenes.watched();
        cards.pass(12);
        e.same("the twelfth reading, by the tiredness 11", 5, cards.readingOf(0, 11));
        e.same("tiredness behind it", 12, cards.tirednessOf(0));
        cards.pass(1);
        e.same("the thirteenth, by the tiredness 12", 4, cards.readingOf(0, 12));
        cards.watch(0, 7);
        cards.pass(1);
        e.same("another chimney is no rest", 14, cards.tirednessOf(0));
    }

    private static void rest(Edges e) {
        ShadeCards cards = Scenes.watched();
        cards.pass(13);
        cards.watch(0, -1);
        e.same("no tick has passed", 13, cards.tirednessOf(0));
        cards.pass(1);
        e.same("one tick of rest", 0, cards.tirednessOf(0));
        cards.watch(0, 0);
        cards.pass(1);
        e.same("read by fresh eyes", 5, cards.readingOf(0, 14));
        e.same("who always rests", 0, cards.tirednessOf(1));
    }

    private static void byRisingNumbers(Edges e) {
        ShadeCards cards = new ShadeCards();
        int[] watched = {7, 3, 0};
        for (int observer = 0; observer < 3; observer++) {
            cards.setChimney(watched[observer], 9, 2, 2, 0);
            cards.watch(observer, watched[observer]);
        }
        e.same("three in one tick", 3, cards.pass(3));
        e.same("the lowest first", 0, cards.chimneyOf(0));
        e.same("then the one between", 3, cards.chimneyOf(1));
        e.same("the highest last", 7, cards.chimneyOf(2));
    }

    private static void brokenRows(Edges e) {
        e.same("one reading is too low", 0, Scenes.smoke(Scenes.watching(3, 3), 3, 3, 2, 3, 3));
        e.same("the row begins anew", 1, Scenes.smoke(Scenes.watching(3, 3), 3, 3, 2, 3, 3, 3));
        e.same("two rows, two notices", 2, Scenes.smoke(Scenes.watching(3, 3), 3, 3, 3, 2, 3, 3, 3));
        e.same("the row has to go up to the tick", 0, Scenes.smoke(Scenes.watching(4, 2), 3, 4, 3, 4, 3));
        ShadeCards unwatched = Scenes.watched();
        unwatched.pass(2);
        unwatched.watch(0, -1);
        unwatched.pass(1);
        unwatched.watch(0, 0);
        e.same("one tick without a reading", 0, unwatched.pass(2));
        e.same("the row begins anew behind it", 1, unwatched.pass(1));
        ShadeCards handedOver = Scenes.watched();
        handedOver.pass(2);
        handedOver.watch(0, -1);
        handedOver.watch(2, 0);
        e.same("a row of two observers", 1, handedOver.pass(1));
    }

    private static void rowsAtTheDaysEnd(Edges e) {
        ShadeCards broken = Scenes.hot();
        broken.pass(94);
        broken.watch(0, 0);
        e.same("two ticks of one day and two of the next", 0, broken.pass(4));
        e.same("the third one of the next", 1, broken.pass(1));
        ShadeCards last = Scenes.hot();
        last.pass(93);
        last.watch(0, 0);
        e.same("the last three of a day", 1, last.pass(3));
        e.same("and the first three of the next", 1, last.pass(3));
        ShadeCards first = Scenes.watching(5, 1);
        Scenes.smoke(first, 5);
        e.same("a row of the first tick alone", 1, first.notices());
    }

    private static void limits(Edges e) {
        ShadeCards atFirst = new ShadeCards();
        atFirst.watch(0, 0);
        e.same("at first: readings of 2", 0, Scenes.smoke(atFirst, 2, 2, 2));
        e.same("at first: readings of 3", 1, Scenes.smoke(atFirst, 3, 3, 3));
        for (int limit = 1; limit <= 5; limit++) {
            e.same("just the limit " + limit, 1, Scenes.smoke(Scenes.watching(limit, 1), limit));
            e.same("1 less than the limit " + limit, 0, Scenes.smoke(Scenes.watching(limit, 1), limit - 1));
        }
        ShadeCards lowered = Scenes.watching(5, 3);
        Scenes.smoke(lowered, 4, 4);
        lowered.setLimit(4, 3);
        e.same("readings ahead count by the limit of now", 1, Scenes.smoke(lowered, 4));
        ShadeCards raised = Scenes.watching(4, 3);
        Scenes.smoke(raised, 4, 4);
        raised.setLimit(5, 3);
        e.same("they do not count any more", 0, Scenes.smoke(raised, 5, 5));
        e.same("three of the limit of now", 1, Scenes.smoke(raised, 5));
    }

    private static void patiences(Edges e) {
        ShadeCards atFirst = new ShadeCards();
        atFirst.watch(0, 0);
        e.same("at first: two in a row", 0, Scenes.smoke(atFirst, 3, 3));
        e.same("at first: three", 1, Scenes.smoke(atFirst, 3));
        e.same("at first: more than three", 0, Scenes.smoke(atFirst, 3, 3, 3, 3, 3));
        for (int patience = 1; patience <= 8; patience++) {
            ShadeCards cards = Scenes.watched();
            cards.setLimit(3, patience);
            e.same("less than " + patience, 0, patience == 1 ? 0 : cards.pass(patience - 1));
            e.same("just " + patience, 1, cards.pass(1));
            e.same("more than " + patience, 0, cards.pass(80));
        }
        ShadeCards raised = Scenes.noticed();
        raised.setLimit(3, 5);
        e.same("four, and the patience has become 5", 0, raised.pass(1));
        e.same("five", 1, raised.pass(1));
        raised.setLimit(3, 5);
        e.same("six, and the patience stays", 0, raised.pass(1));
        raised.setLimit(3, 6);
        e.same("seven, and the patience has become 6", 0, raised.pass(1));
    }

    private static void twentyNotices(Edges e) {
        ShadeCards cards = Scenes.nineteen();
        e.same("nineteen", 19, cards.notices());
        e.same("ahead of the tick", 0, cards.pass(7));
        e.same("the twentieth", 1, cards.pass(1));
        e.same("no other", 0, cards.pass(200));
        cards.setChimney(0, 9, 2, 2, 0);
        cards.watch(0, 0);
        e.same("nor of another chimney", 0, cards.pass(200));
        e.same("twenty", 20, cards.notices());
        for (int other : new int[] {1, 5}) {
            ShadeCards two = Scenes.nineteen();
            two.setChimney(other, 9, 0, 8, 0);
            two.pass(4);
            two.watch(0, other);
            e.same("two at once, one place", 1, two.pass(4));
            e.same("the lower one gets it", Math.min(2, other), two.chimneyOf(19));
        }
        ShadeCards upheld = Scenes.nineteen();
        upheld.setGrey(14, 3);
        upheld.pass(8);
        e.same("the twentieth is upheld", true, upheld.appeal(19));
        e.same("but is still a notice", 0, upheld.pass(200));
        upheld.undo();
        upheld.undo();
        upheld.undo();
        e.same("undone, there is a place again", 1, upheld.pass(8));
    }

    private static void theDaysEnd(Edges e) {
        ShadeCards cards = new ShadeCards();
        cards.pass(94);
        int[] due = {95, 96, 97};
        for (int time : due) {
            cards.pass(1);
            e.same("time", time, cards.time());
        }
        cards.pass(200);
        e.same("over two days' ends", 297, cards.time());
        e.same("the tick at hand, 9, is stoked for chimney 1", 2, cards.wouldRead(0, 1));
    }

    private static void readingsGo(Edges e) {
        ShadeCards cards = new ShadeCards();
        for (int observer = 0; observer < 3; observer++) {
            cards.watch(observer, 3 * observer + 1);
        }
        cards.pass(95);
        e.same("ahead of the day's end", 95, cards.readingsFrom(7, 0));
        cards.pass(1);
        for (int chimney = 0; chimney < 8; chimney++) {
            e.same("behind it, of " + chimney, 0, cards.readingsFrom(chimney, 0));
        }
        e.same("the first tick", -1, cards.readingOf(1, 0));
        e.same("the last tick", -1, cards.readingOf(1, 95));
        e.same("the errors do not go", true, cards.errorsOf(0) > 0);
    }

    private static void orderOfNotices(Edges e) {
        ShadeCards cards = new ShadeCards();
        cards.setChimney(6, 9, 2, 2, 0);
        cards.setChimney(1, 9, 2, 2, 0);
        cards.watch(0, 6);
        cards.pass(1);
        cards.watch(1, 1);
        e.same("one of each", 2, cards.pass(3));
        e.same("what came first", 6, cards.chimneyOf(0));
        e.same("what came behind it", 1, cards.chimneyOf(1));
        cards.pass(95);
        e.same("of the next day, both at once", 1, cards.chimneyOf(2));
        e.same("of the next day, both at once", 6, cards.chimneyOf(3));
    }

    private static void limitOfThen(Edges e) {
        for (int limit : new int[] {4, 5}) {
            ShadeCards cards = Scenes.watching(limit, 2);
            cards.setBias(0, 1);
            cards.setGrey(0, 3);
            cards.pass(3);
            cards.setGrey(0, 0);
            Scenes.smoke(cards, 4, 4);
            e.same("4 read as 5", 1, cards.notices());
            int due = limit == 4 ? 2 : 1;
            e.same("limit " + limit, due, cards.wouldAppeal(0));
            cards.setLimit(1, 8);
            e.same("not a lower limit, nor a greater patience", due, cards.wouldAppeal(0));
            cards.setLimit(5, 1);
            e.same("nor a greater limit", due, cards.wouldAppeal(0));
            e.same("upheld", limit == 5, cards.appeal(0));
        }
    }

    private static void growingFines(Edges e) {
        ShadeCards cards = Scenes.twenty();
        for (int notice = 0; notice < 20; notice++) {
            e.same("the fine of " + notice, 10 * notice + 10, cards.fineOf(notice));
        }
        ShadeCards two = Scenes.noticed();
        two.setChimney(1, 9, 2, 2, 0);
        two.watch(1, 1);
        two.pass(3);
        e.same("the first of another chimney", 10, two.fineOf(1));
        ShadeCards upheld = Scenes.watching(4, 1);
        Scenes.smoke(upheld, 4, 0, 4, 0);
        upheld.setGrey(1, 3);
        Scenes.smoke(upheld, 4, 0);
        upheld.setGrey(1, 0);
        e.same("the third of three", 30, upheld.fineOf(2));
        e.same("upheld", true, upheld.appeal(2));
        e.same("not upheld", false, upheld.appeal(0));
        Scenes.smoke(upheld, 4);
        e.same("of three that stand, as one does not", 30, upheld.fineOf(3));
        e.same("the earlier one stays", 20, upheld.fineOf(1));
    }

    private static void standsUntil(Edges e) {
        ShadeCards cards = Scenes.noticed();
        e.same("when it has come", true, cards.stands(0));
        cards.pass(200);
        e.same("days later", true, cards.stands(0));
        cards.appeal(0);
        e.same("behind an appeal that is not upheld", true, cards.stands(0));
        ShadeCards grey = Scenes.watched();
        grey.setGrey(0, 3);
        grey.pass(3);
        e.same("with reason for an appeal, but none made", true, grey.stands(0));
        grey.appeal(0);
        e.same("behind an appeal that is upheld", false, grey.stands(0));
        grey.pass(200);
        e.same("days later", false, grey.stands(0));
    }

    private static void madeOnce(Edges e) {
        e.refuses("a second one, the first not upheld", Edges.NOT_NOW, () -> {
            ShadeCards cards = Scenes.noticed();
            cards.appeal(0);
            return cards;
        }, x -> x.appeal(0));
        e.refuses("a second one, the first upheld", Edges.NOT_NOW, () -> {
            ShadeCards cards = Scenes.watched();
            cards.setGrey(0, 3);
            cards.pass(3);
            cards.appeal(0);
            return cards;
        }, x -> x.appeal(0));
        ShadeCards undone = Scenes.noticed();
        undone.appeal(0);
        undone.undo();
        e.same("undone, it can be made", 2, undone.wouldAppeal(0));
        e.same("as if for the first time", false, undone.appeal(0));
        ShadeCards both = Scenes.twenty();
        both.appeal(19);
        e.same("of one alone", 2, both.wouldAppeal(18));
    }

    /** The row begins with the tick 4; the sky is grey in just one tick, or never. */
    private static int outcome(int patience, int greyTick) {
        ShadeCards cards = Scenes.hot();
        cards.setLimit(5, patience);
        for (int tick = 0; tick < 4 + patience + 1; tick++) {
            cards.setGrey(tick / 4, tick == greyTick ? 3 : 0);
            if (tick == 4) {
                cards.watch(0, 0);
            }
            cards.pass(1);
            cards.setGrey(tick / 4, 0);
        }
        return cards.wouldAppeal(0);
    }

    private static void ticksOfANotice(Edges e) {
        for (int patience = 1; patience <= 8; patience++) {
            String what = "patience " + patience + ", grey in the ";
            e.same(what + "tick ahead of its first", 2, outcome(patience, 3));
            for (int tick = 4; tick < 4 + patience; tick++) {
                e.same(what + "tick " + tick, 0, outcome(patience, tick));
            }
            e.same(what + "tick behind its own", 2, outcome(patience, 4 + patience));
            e.same("never grey, patience " + patience, 2, outcome(patience, -1));
        }
    }

    private static void greyOfThen(Edges e) {
        for (int grey = 0; grey <= 4; grey++) {
            ShadeCards cards = Scenes.watched();
            cards.setGrey(0, grey);
            cards.pass(3);
            cards.setGrey(0, 4 - grey);
            e.same("grey " + grey + " then", grey >= 3 ? 0 : 2, cards.wouldAppeal(0));
            cards.pass(93);
            cards.pass(3);
            e.same("a day later too", grey >= 3 ? 0 : 2, cards.wouldAppeal(0));
            e.same("upheld", grey >= 3, cards.appeal(0));
        }
    }

    private static void shadeOfThen(Edges e) {
        int[][] reasons = {{4, 5, 5}, {5, 4, 5}, {5, 5, 4}, {4, 4, 4}};
        for (int[] shades : reasons) {
            ShadeCards less = Scenes.watching(5, 3);
            less.setBias(0, 1);
            e.same("all read as 5", 1, Scenes.smoke(less, shades));
            e.same("less in one of its ticks", 1, less.wouldAppeal(0));
            less.setChimney(0, 9, 2, 2, 0);
            less.setBias(0, 0);
            e.same("though the fire is hotter now", 1, less.wouldAppeal(0));
            e.same("upheld", true, less.appeal(0));
        }
        ShadeCards even = Scenes.watching(5, 3);
        even.setBias(0, 1);
        e.same("just the limit", 1, Scenes.smoke(even, 5, 5, 5));
        even.setChimney(0, 0, 0, 2, 0);
        e.same("not less, though the fire is out now", 2, even.wouldAppeal(0));
        ShadeCards beside = Scenes.watching(5, 1);
        beside.setBias(0, 1);
        Scenes.smoke(beside, 3, 5, 3);
        e.same("less in the ticks beside its own", 2, beside.wouldAppeal(0));
    }

    private static void givenBack(Edges e) {
        ShadeCards cards = Scenes.watching(4, 1);
        cards.setGrey(0, 3);
        Scenes.smoke(cards, 4, 0, 4, 0, 4, 0);
        for (boolean byAccounts : Edges.WAYS) {
            e.same("10, 20 and 30", 60, cards.finesOf(0, byAccounts));
        }
        e.same("not upheld", false, cards.appeal(2));
        e.same("nothing is given back", 60, cards.finesOf(0, true));
        e.same("upheld", true, cards.appeal(1));
        for (boolean byAccounts : Edges.WAYS) {
            e.same("20 less", 40, cards.finesOf(0, byAccounts));
        }
        e.same("upheld", true, cards.appeal(0));
        for (boolean byAccounts : Edges.WAYS) {
            e.same("10 less", 30, cards.finesOf(0, byAccounts));
        }
        for (int chimney = 0; chimney < 8; chimney++) {
            ShadeCards each = new ShadeCards();
            each.setChimney(chimney, 9, 2, 2, 0);
            each.watch(2, chimney);
            each.setGrey(0, 3);
            each.pass(3);
            each.appeal(0);
            for (boolean byAccounts : Edges.WAYS) {
                e.same("given back to " + chimney, 0, each.finesOf(chimney, byAccounts));
            }
        }
    }
}
