/** The edges of what is to come: promises 30 to 33. */
final class ToComeEdges {
    private ToComeEdges() {
    }

    static void all(Edges e) {
        toWatch(e);
        noticesIn(e);
        ticksToNotice(e);
        mildLimit(e);
    }

    private static ShadeCards cold() {
        ShadeCards cards = new ShadeCards();
        for (int chimney = 0; chimney < 8; chimney++) {
            cards.setChimney(chimney, 0, 0, 2, 0);
        }
        return cards;
    }

    private static void toWatch(Edges e) {
        e.in("Promise 30: toWatch");
        e.holds("Returns the three chimneys that smoke the most in some ticks from the one at hand on,",
                () -> fromTheOneAtHand(e));
        e.holds("as far as the day goes,", () -> asFarAsTheDayGoes(e));
        e.holds("as a set: with the greatest shades, together;", () -> greatestTogether(e));
        e.holds("of several sets the least number.", () -> leastNumber(e));
        e.holds("ticks: 1 to 96", () -> {
            for (boolean byPicking : Edges.WAYS) {
                e.range(1, 96, Edges.OUT_OF_RANGE, (x, value) -> x.toWatch(value, byPicking));
            }
        });
        e.holds("byPicking: false: told by trying all sets of three; true: told by picking one after the other, the "
                + "greatest first, of several the lowest (the same)", () -> bothWays(e));
        e.holds("Throws IllegalArgumentException if ticks is out of range", () -> {
            for (boolean byPicking : Edges.WAYS) {
                e.refuses("none", Edges.OUT_OF_RANGE, x -> x.toWatch(0, byPicking));
                e.refuses("97", Edges.OUT_OF_RANGE, x -> x.toWatch(97, byPicking));
            }
        });
    }

    private static void fromTheOneAtHand(Edges e) {
        for (boolean byPicking : Edges.WAYS) {
            ShadeCards cards = cold();
            cards.setChimney(7, 1, 0, 12, 1);
            cards.setChimney(6, 1, 0, 12, 2);
            cards.setChimney(5, 1, 0, 12, 3);
            e.same("the tick at hand alone", 0b00000111, cards.toWatch(1, byPicking));
            e.same("two ticks", 0b10000011, cards.toWatch(2, byPicking));
            e.same("three ticks", 0b11000001, cards.toWatch(3, byPicking));
            e.same("four ticks", 0b11100000, cards.toWatch(4, byPicking));
            cards.pass(2);
            e.same("not what has passed", 0b01000011, cards.toWatch(1, byPicking));
            e.same("not what has passed, two ticks", 0b01100001, cards.toWatch(2, byPicking));
        }
    }

    private static void asFarAsTheDayGoes(Edges e) {
        for (boolean byPicking : Edges.WAYS) {
            ShadeCards cards = cold();
            cards.setChimney(7, 1, 0, 12, 11);
            cards.setChimney(6, 9, 2, 12, 0);
            cards.pass(95);
            e.same("the last tick", 0b10000011, cards.toWatch(1, byPicking));
            e.same("the tick behind it is of another day", 0b10000011, cards.toWatch(2, byPicking));
            e.same("as many as a day has", 0b10000011, cards.toWatch(96, byPicking));
            cards.pass(1);
            e.same("the first tick", 0b01000011, cards.toWatch(1, byPicking));
            e.same("a whole day but its last tick", 0b11000001, cards.toWatch(95, byPicking));
        }
        for (boolean byPicking : Edges.WAYS) {
            ShadeCards last = cold();
            last.pass(13);
            last.setChimney(7, 1, 0, 12, 11);
            last.setChimney(6, 1, 0, 12, 0);
            last.setChimney(5, 1, 0, 12, 0);
            last.setChimney(4, 1, 0, 12, 0);
            e.same("stoked six times each", 0b01110000, last.toWatch(82, byPicking));
            e.same("and once more in the last tick of the day", 0b10110000, last.toWatch(83, byPicking));
        }
    }

    private static void greatestTogether(Edges e) {
        for (boolean byPicking : Edges.WAYS) {
            ShadeCards cards = cold();
            cards.setChimney(0, 9, 0, 12, 0);
            cards.setChimney(3, 3, 2, 4, 1);
            cards.setChimney(4, 1, 0, 2, 0);
            cards.setChimney(7, 5, 0, 5, 3);
            e.same("one tick: 5, 0, 1 and 0", 0b00010011, cards.toWatch(1, byPicking));
            e.same("two ticks: 9, 4, 1 and 0", 0b00011001, cards.toWatch(2, byPicking));
            e.same("a day: 120, 239, 48 and 114", 0b10001001, cards.toWatch(96, byPicking));
        }
    }

    private static void leastNumber(Edges e) {
        for (boolean byPicking : Edges.WAYS) {
            e.same("nobody smokes", 0b00000111, cold().toWatch(96, byPicking));
            ShadeCards cards = cold();
            for (int chimney = 1; chimney < 8; chimney++) {
                cards.setChimney(chimney, 9, 2, 2, 0);
            }
            e.same("all but the first are alike", 0b00001110, cards.toWatch(96, byPicking));
            ShadeCards one = cold();
            one.setChimney(4, 1, 0, 2, 0);
            e.same("one smokes", 0b00010011, one.toWatch(96, byPicking));
            ShadeCards two = cold();
            two.setChimney(6, 9, 0, 2, 0);
            two.setChimney(3, 5, 0, 2, 0);
            two.setChimney(5, 5, 0, 2, 0);
            two.setChimney(7, 5, 0, 2, 0);
            e.same("the hottest, and two of three", 0b01101000, two.toWatch(1, byPicking));
        }
    }

    private static void bothWays(Edges e) {
        for (int time : new int[] {0, 1, 5, 11, 12, 13, 47, 60, 80, 85, 86, 87, 90, 93, 94, 95, 96, 107}) {
            ShadeCards cards = mixed(time);
            for (int ticks = 1; ticks <= 10; ticks++) {
                int due = best(cards, ticks);
                e.same("by sets, time " + time, due, cards.toWatch(ticks, false));
                e.same("by picking, time " + time, due, cards.toWatch(ticks, true));
            }
        }
    }

    private static ShadeCards mixed(int time) {
        ShadeCards cards = new ShadeCards();
        int[] fires = {5, 1, 9, 3, 5, 0, 7, 3};
        int[] turns = {2, 12, 7, 3, 5, 2, 11, 4};
        for (int chimney = 0; chimney < 8; chimney++) {
            cards.setChimney(chimney, fires[chimney], chimney % 3, turns[chimney], 11 - chimney);
        }
        if (time > 0) {
            cards.pass(time);
        }
        return cards;
    }

    /** The best set of three by the shades of each chimney, one by one. */
    private static int best(ShadeCards cards, int ticks) {
        int from = cards.time() % 96;
        int to = Math.min(95, from + ticks - 1);
        int[] smoke = new int[8];
        for (int chimney = 0; chimney < 8; chimney++) {
            smoke[chimney] = cards.smoke(chimney, from, to, false);
        }
        int best = 7;
        for (int set = 7; set < 256; set++) {
            if (Integer.bitCount(set) == 3 && together(smoke, set) > together(smoke, best)) {
                best = set;
            }
        }
        return best;
    }

    private static int together(int[] smoke, int set) {
        int together = 0;
        for (int chimney = 0; chimney < 8; chimney++) {
            together += (set >> chimney & 1) * smoke[chimney];
        }
        return together;
    }

    private static void noticesIn(Edges e) {
        e.in("Promise 31: noticesIn");
        e.holds("Returns how many notices come in some ticks.", () -> noticesToCome(e));
        e.holds("ticks: 1 to 200", () -> e.range(1, 200, Edges.OUT_OF_RANGE, ShadeCards::noticesIn));
        e.holds("Throws IllegalArgumentException if ticks is out of range", () -> {
            e.refuses("none", Edges.OUT_OF_RANGE, x -> x.noticesIn(0));
            e.refuses("201", Edges.OUT_OF_RANGE, x -> x.noticesIn(201));
        });
    }

    private static void noticesToCome(Edges e) {
        e.same("nobody watches", 0, new ShadeCards().noticesIn(200));
        e.same("one tick less", 0, Scenes.watched().noticesIn(2));
        e.same("just so many", 1, Scenes.watched().noticesIn(3));
        e.same("over a day's end, one tick less", 1, Scenes.watched().noticesIn(98));
        e.same("over a day's end", 2, Scenes.watched().noticesIn(99));
        ShadeCards row = Scenes.watched();
        row.pass(2);
        e.same("a row that has begun", 1, row.noticesIn(1));
        ShadeCards last = Scenes.watching(4, 1);
        last.setChimney(0, 9, 0, 12, 7);
        e.same("ahead of the last of 200 ticks", 16, last.noticesIn(199));
        e.same("with the last of 200 ticks", 17, last.noticesIn(200));
        e.same("as many come then", 17, last.pass(200));
        e.same("one place left", 1, Scenes.nineteen().noticesIn(200));
        e.same("no place left", 0, Scenes.twenty().noticesIn(200));
        ShadeCards asked = Scenes.nineteen();
        asked.noticesIn(200);
        e.same("nothing came by asking", 19, asked.notices());
        e.same("nor did time pass", 145, asked.time());
    }

    private static void ticksToNotice(Edges e) {
        e.in("Promise 32: ticksToNotice");
        e.holds("Returns behind how many ticks a chimney gets a notice, if only ticks pass;", () -> ticksToCome(e));
        e.holds("NONE if not within 200.", () -> notWithin(e));
        e.holds("Throws IndexOutOfBoundsException if there is no such chimney",
                () -> e.range(0, 7, Edges.NO_SUCH, ShadeCards::ticksToNotice));
    }

    private static void ticksToCome(Edges e) {
        ShadeCards cards = Scenes.watching(4, 1);
        Scenes.smoke(cards, 0);
        cards.setChimney(0, 9, 2, 2, 0);
        e.same("the tick at hand", 1, cards.ticksToNotice(0));
        e.same("a row of three", 3, Scenes.watched().ticksToNotice(0));
        ShadeCards noticed = Scenes.noticed();
        e.same("the first three of the next day", 96, noticed.ticksToNotice(0));
        noticed.pass(95);
        e.same("the tick at hand is its third", 1, noticed.ticksToNotice(0));
        ShadeCards longer = Scenes.watched();
        longer.pass(5);
        longer.setChimney(0, 9, 2, 2, 5);
        e.same("a row that is longer already; the next one from the tick 5 of the next day on", 99,
                longer.ticksToNotice(0));
        ShadeCards far = Scenes.watching(5, 1);
        far.setBias(0, 1);
        far.setChimney(0, 7, 0, 12, 0);
        far.pass(1);
        far.setChimney(0, 9, 0, 12, 11);
        e.same("the first stoking", 11, far.ticksToNotice(0));
        e.same("another chimney", -1, far.ticksToNotice(7));
        ShadeCards two = Scenes.watched();
        two.setChimney(7, 9, 2, 2, 5);
        two.watch(1, 7);
        e.same("the one does not stop for the other", 8, two.ticksToNotice(7));
        e.same("the other", 3, two.ticksToNotice(0));
    }

    /** Days are alike while only ticks pass: what does not come on the next day does not come at all. */
    private static void notWithin(Edges e) {
        e.same("nobody watches", -1, new ShadeCards().ticksToNotice(0));
        ShadeCards late = Scenes.watching(5, 1);
        late.setBias(0, 1);
        late.setChimney(0, 7, 0, 2, 0);
        late.pass(1);
        late.setChimney(0, 9, 0, 12, 0);
        e.same("stoked in the tick 12: fresh eyes no more, but the bias makes up for it", 12, late.ticksToNotice(0));
        late.pass(12);
        e.same("and in the next one", 12, late.ticksToNotice(0));
        late.setBias(0, 0);
        e.same("without the bias no reading is 5 any more", -1, late.ticksToNotice(0));
        e.same("no place for the last chimney", -1, Scenes.twenty().ticksToNotice(2));
        ShadeCards taken = Scenes.nineteen();
        taken.setChimney(0, 9, 2, 2, 0);
        taken.pass(4);
        taken.watch(0, 0);
        e.same("the first chimney takes the last place", 1, taken.ticksToNotice(0));
        e.same("so there is none for another one", -1, taken.ticksToNotice(2));
    }

    private static void mildLimit(Edges e) {
        e.in("Promise 33: mildLimit");
        e.holds("Returns the least limit, 1 to 5, with which no notice comes in some ticks;", () -> leastLimit(e));
        e.holds("NONE if with none.", () -> {
            e.same("one tick less", 1, Scenes.watched().mildLimit(2));
            e.same("a row of three of the most", -1, Scenes.watched().mildLimit(3));
            ShadeCards tired = Scenes.watched();
            tired.pass(96);
            e.same("tired eyes", 5, tired.mildLimit(96));
            tired.setBias(0, 1);
            e.same("tired eyes, and the bias 1", -1, tired.mildLimit(96));
        });
        e.holds("ticks: 1 to 200", () -> e.range(1, 200, Edges.OUT_OF_RANGE, ShadeCards::mildLimit));
        e.holds("Throws IllegalArgumentException if ticks is out of range", () -> {
            e.refuses("none", Edges.OUT_OF_RANGE, x -> x.mildLimit(0));
            e.refuses("201", Edges.OUT_OF_RANGE, x -> x.mildLimit(201));
        });
    }

    private static void leastLimit(Edges e) {
        e.same("nobody watches", 1, new ShadeCards().mildLimit(200));
        for (int shade = 0; shade <= 5; shade++) {
            ShadeCards cards = Scenes.watching(3, 1);
            cards.setChimney(0, shade == 0 ? 0 : 2 * shade - 1, 0, 12, 0);
            e.same("a reading of " + shade, shade == 5 ? -1 : shade + 1, cards.mildLimit(1));
            e.same("the limit is as it was", 3, cards.setLimit(3, 1));
        }
        ShadeCards patient = Scenes.watching(5, 2);
        patient.setChimney(0, 9, 0, 12, 0);
        e.same("5 and 4, by the patience of now", 5, patient.mildLimit(2));
        patient.setLimit(1, 8);
        e.same("by a greater patience", 1, patient.mildLimit(200));
        ShadeCards longer = Scenes.noticed();
        e.same("the row is longer than the patience already", 1, longer.mildLimit(93));
        e.same("up to the third tick of the next day", 1, longer.mildLimit(95));
        e.same("with it, until tired", 5, longer.mildLimit(96));
        ShadeCards mixed = Scenes.watching(5, 2);
        Scenes.smoke(mixed, 2, 2, 5);
        mixed.setChimney(0, 9, 2, 2, 0);
        e.same("the least, though greater ones give a notice", 1, mixed.mildLimit(1));
        e.same("no place left", 1, Scenes.twenty().mildLimit(200));
    }
}
