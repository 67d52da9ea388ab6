import java.util.ArrayList;
import java.util.List;

/** The edges of chimneys, of the sky and of the time: their terms, and promises 10 to 14. */
final class ChimneysEdges {
    private ChimneysEdges() {
    }

    static void all(Edges e) {
        terms(e);
        shadeOf(e);
        nextStoking(e);
        smoke(e);
        greyOf(e);
        time(e);
    }

    private static void terms(Edges e) {
        e.in("Chimneys");
        e.holds("There are 8 chimneys, 0 to 7.", () -> e.range(0, 7, Edges.NO_SUCH, (x, value) -> x.shadeOf(value, 0)));
        e.holds("Each has a fire, 0 to 9 (3 at first),", () -> fires(e));
        e.holds("a damp, 0 to 2 (0 at first),", () -> damps(e));
        e.holds("a turn, 2 to 12 ticks (4 at first),", () -> turns(e));
        e.holds("and a beginning, 0 to 11 (at first the chimney c has the remainder of c, divided by 4).",
                () -> beginnings(e));
        e.holds("A day has 96 ticks, 0 to 95.", () -> theDay(e));
        e.holds("A chimney is stoked in the tick of its beginning, and in each one that is a turn later, and so on,",
                () -> stokings(e));
        e.holds("each day anew.", () -> stokedAnew(e));
        e.holds("In a tick, its shade is the fire and 1, together, divided by 2, and the damp, less how many ticks ago "
                + "it was stoked last on that day,", () -> shades(e));
        e.holds("all together, held to 0 to 5;", () -> heldShades(e));
        e.holds("it is 0 ahead of the first stoking of the day.", () -> aheadOfTheFirstStoking(e));
        e.holds("Each hour, 0 to 23, of 4 ticks each,", () -> hours(e));
        e.holds("has a grey, 0 to 4 (0 at first).", () -> greys(e));
    }

    private static void fires(Edges e) {
        ShadeCards cards = new ShadeCards();
        e.same("at first: 3 and 1, divided by 2", 2, cards.shadeOf(7, 3));
        e.same("the least", 0, cards.setChimney(7, 0, 0, 2, 0));
        e.same("the most", 5, cards.setChimney(7, 9, 0, 2, 0));
    }

    private static void damps(Edges e) {
        ShadeCards cards = Check.write(new ShadeCards(), "f70");
        cards.read();
        e.same("at first", 0, cards.shadeOf(7, 3));
        e.same("the least", 0, cards.setChimney(7, 0, 0, 2, 0));
        e.same("the most", 2, cards.setChimney(7, 0, 2, 2, 0));
    }

    private static void turns(Edges e) {
        ShadeCards cards = new ShadeCards();
        e.same("at first", List.of(0, 4, 8, 12), stokings(cards, 0, 12));
        cards.setChimney(0, 3, 0, 2, 0);
        e.same("the least", List.of(0, 2, 4, 6, 8, 10, 12), stokings(cards, 0, 12));
        cards.setChimney(0, 3, 0, 12, 0);
        e.same("the most", List.of(0, 12), stokings(cards, 0, 23));
    }

    private static void beginnings(Edges e) {
        ShadeCards cards = new ShadeCards();
        int[] atFirst = {0, 1, 2, 3, 0, 1, 2, 3};
        for (int chimney = 0; chimney < 8; chimney++) {
            e.same("at first, of " + chimney, atFirst[chimney], cards.nextStoking(chimney, 0));
        }
        cards.setChimney(3, 3, 0, 12, 0);
        e.same("the least", 0, cards.nextStoking(3, 0));
        cards.setChimney(3, 3, 0, 12, 11);
        e.same("the most", 11, cards.nextStoking(3, 0));
    }

    private static void theDay(Edges e) {
        e.range(0, 95, Edges.OUT_OF_RANGE, (x, value) -> x.readingOf(0, value));
        ShadeCards cards = new ShadeCards();
        cards.setChimney(0, 9, 0, 12, 0);
        cards.setChimney(1, 9, 0, 12, 11);
        cards.pass(95);
        e.same("tick 95, stoked 11 ago", 0, cards.wouldRead(0, 0));
        e.same("tick 95, stoked in it", 5, cards.wouldRead(0, 1));
        cards.pass(1);
        e.same("tick 0, stoked in it", 5, cards.wouldRead(0, 0));
        e.same("tick 0, not yet stoked", 0, cards.wouldRead(0, 1));
    }

    /** The ticks up to one in which a chimney is stoked. */
    private static List<Integer> stokings(ShadeCards cards, int chimney, int to) {
        List<Integer> ticks = new ArrayList<>();
        int tick = cards.nextStoking(chimney, 0);
        while (tick >= 0 && tick <= to) {
            ticks.add(tick);
            tick = tick < 95 ? cards.nextStoking(chimney, tick + 1) : -1;
        }
        return ticks;
    }

    private static void stokings(Edges e) {
        for (int turn : new int[] {2, 3, 7, 12}) {
            for (int begin : new int[] {0, 1, 4, 11}) {
                ShadeCards cards = new ShadeCards();
                cards.setChimney(5, 9, 0, turn, begin);
                List<Integer> due = new ArrayList<>();
                for (int tick = begin; tick < 96; tick += turn) {
                    due.add(tick);
                }
                e.same("turn " + turn + ", beginning " + begin, due, stokings(cards, 5, 95));
                for (int tick : due) {
                    e.same("the shade in its tick " + tick, 5, cards.shadeOf(5, tick));
                }
            }
        }
    }

    private static void stokedAnew(Edges e) {
        ShadeCards cards = new ShadeCards();
        cards.setChimney(0, 9, 0, 7, 3);
        int[] due = {0, 0, 0, 5, 4, 3, 2, 1, 0, 0, 5};
        for (int day = 0; day < 3; day++) {
            for (int tick = 0; tick < due.length; tick++) {
                e.same("day " + day + ", tick " + tick, due[tick], cards.wouldRead(0, 0));
                cards.pass(1);
            }
            cards.pass(96 - due.length);
        }
    }

    private static void shades(Edges e) {
        ShadeCards cards = new ShadeCards();
        cards.setChimney(0, 5, 1, 12, 2);
        int[] due = {4, 3, 2, 1, 0, 0, 0, 0, 0, 0, 0, 0, 4, 3};
        for (int ago = 0; ago < due.length; ago++) {
            e.same(ago + " behind the first stoking", due[ago], cards.shadeOf(0, 2 + ago));
        }
        e.same("the fire 4 and the damp 1", 3, cards.setChimney(0, 4, 1, 12, 0));
        e.same("stoked in the tick ahead of it", 2, cards.shadeOf(0, 1));
    }

    private static void heldShades(Edges e) {
        ShadeCards cards = new ShadeCards();
        cards.setChimney(0, 9, 2, 12, 0);
        int[] due = {5, 5, 5, 4, 3, 2, 1, 0, 0, 0, 0, 0};
        for (int ago = 0; ago < due.length; ago++) {
            e.same("7 less " + ago, due[ago], cards.shadeOf(0, ago));
        }
        e.same("5, just the most", 5, cards.setChimney(0, 9, 0, 12, 0));
        e.same("6, one more", 5, cards.setChimney(0, 9, 1, 12, 0));
        e.same("0, just the least", 0, cards.shadeOf(0, 6));
        cards.setChimney(0, 0, 0, 12, 0);
        e.same("0 less 1", 0, cards.shadeOf(0, 1));
        e.same("0 less 11", 0, cards.shadeOf(0, 11));
    }

    private static void aheadOfTheFirstStoking(Edges e) {
        ShadeCards cards = new ShadeCards();
        cards.setChimney(0, 9, 2, 2, 11);
        for (int tick = 0; tick <= 10; tick++) {
            e.same("tick " + tick, 0, cards.shadeOf(0, tick));
        }
        e.same("the tick 11", 5, cards.shadeOf(0, 11));
        e.same("with the beginning 0, no tick is ahead of it", 5, cards.setChimney(0, 9, 2, 2, 0));
        cards.setChimney(0, 9, 2, 2, 1);
        e.same("with the beginning 1, tick 0", 0, cards.shadeOf(0, 0));
        e.same("with the beginning 1, tick 1", 5, cards.shadeOf(0, 1));
    }

    private static void hours(Edges e) {
        e.range(0, 23, Edges.OUT_OF_RANGE, (x, value) -> x.greyOf(value));
        for (int hour : new int[] {0, 1, 11, 22, 23}) {
            ShadeCards cards = new ShadeCards();
            cards.setChimney(0, 3, 0, 2, 0);
            cards.setGrey(hour, 3);
            for (int time = 0; time < 192; time++) {
                boolean grey = time % 96 / 4 == hour;
                e.same("hour " + hour + ", time " + time, grey ? 0 : 2 - time % 2, cards.wouldRead(0, 0));
                cards.pass(1);
            }
        }
    }

    private static void greys(Edges e) {
        ShadeCards cards = new ShadeCards();
        for (int hour = 0; hour < 24; hour++) {
            e.same("at first, in " + hour, 0, cards.greyOf(hour));
        }
        e.range(0, 4, Edges.OUT_OF_RANGE, (x, value) -> x.setGrey(23, value));
    }

    private static void shadeOf(Edges e) {
        e.in("Promise 10: shadeOf");
        e.holds("Returns the shade of a chimney in a tick of the day, by what it is now, also in ticks that have "
                + "passed.", () -> shadeInThePast(e));
        e.holds("tick: 0 to 95", () -> firstAndLastShade(e));
        e.holds("Throws IndexOutOfBoundsException if there is no such chimney",
                () -> e.range(0, 7, Edges.NO_SUCH, (x, value) -> x.shadeOf(value, 95)));
        e.holds("Throws IllegalArgumentException if tick is out of range",
                () -> e.range(0, 95, Edges.OUT_OF_RANGE, (x, value) -> x.shadeOf(7, value)));
    }

    private static void shadeInThePast(Edges e) {
        ShadeCards cards = Scenes.watched();
        cards.pass(95);
        cards.setChimney(0, 1, 0, 2, 0);
        e.same("the first tick, as it is now", 1, cards.shadeOf(0, 0));
        e.same("its reading, as it was then", 5, cards.readingOf(0, 0));
        e.same("the last tick, in which it is not stoked", 0, cards.shadeOf(0, 95));
        cards.setChimney(0, 9, 2, 12, 11);
        e.same("the first tick, ahead of the beginning of now", 0, cards.shadeOf(0, 0));
    }

    private static void firstAndLastShade(Edges e) {
        ShadeCards cards = new ShadeCards();
        cards.setChimney(7, 9, 2, 5, 0);
        e.same("the first tick", 5, cards.shadeOf(7, 0));
        e.same("the last tick but one", 3, cards.shadeOf(7, 94));
        e.same("the last tick", 5, cards.shadeOf(7, 95));
        e.same("the first chimney", 2, cards.shadeOf(0, 0));
    }

    private static void nextStoking(Edges e) {
        e.in("Promise 11: nextStoking");
        e.holds("Returns the first tick, from one on, in which a chimney is stoked;", () -> fromOneOn(e));
        e.holds("NONE if in none of the day.", () -> stokedNoMore(e));
        e.holds("from: 0 to 95", () -> firstAndLastFrom(e));
        e.holds("Throws IndexOutOfBoundsException if there is no such chimney",
                () -> e.range(0, 7, Edges.NO_SUCH, (x, value) -> x.nextStoking(value, 0)));
        e.holds("Throws IllegalArgumentException if from is out of range",
                () -> e.range(0, 95, Edges.OUT_OF_RANGE, (x, value) -> x.nextStoking(7, value)));
    }

    private static void fromOneOn(Edges e) {
        ShadeCards cards = new ShadeCards();
        cards.setChimney(0, 0, 0, 12, 11);
        int[][] due = {{0, 11}, {10, 11}, {11, 11}, {12, 23}, {22, 23}, {23, 23}, {24, 35}, {83, 83}, {84, 95}};
        for (int[] row : due) {
            e.same("from " + row[0], row[1], cards.nextStoking(0, row[0]));
        }
    }

    private static void stokedNoMore(Edges e) {
        ShadeCards cards = new ShadeCards();
        cards.setChimney(0, 9, 2, 12, 0);
        e.same("from the last stoking", 84, cards.nextStoking(0, 84));
        e.same("from the tick behind it: 96 is of the next day", -1, cards.nextStoking(0, 85));
        e.same("from the last tick", -1, cards.nextStoking(0, 95));
        cards.setChimney(0, 9, 2, 12, 1);
        e.same("97 would be the next one", -1, cards.nextStoking(0, 86));
        cards.setChimney(0, 9, 2, 2, 0);
        e.same("a short turn, from the last tick", -1, cards.nextStoking(0, 95));
    }

    private static void firstAndLastFrom(Edges e) {
        ShadeCards cards = new ShadeCards();
        cards.setChimney(7, 3, 0, 2, 1);
        e.same("from 0", 1, cards.nextStoking(7, 0));
        e.same("from 94", 95, cards.nextStoking(7, 94));
        e.same("from 95, stoked in it", 95, cards.nextStoking(7, 95));
        e.same("from 0, stoked in it", 0, cards.nextStoking(0, 0));
    }

    private static void smoke(Edges e) {
        e.in("Promise 12: smoke");
        e.holds("Returns the shades of a chimney in the ticks from one to another one, both among them, together.",
                () -> bothAmongThem(e));
        e.holds("from: 0 to 95", () -> smokeFrom(e));
        e.holds("to: from to 95", () -> smokeTo(e));
        e.holds("byTurns: false: told tick by tick; true: told by whole turns, and what is left of them (the same)",
                () -> turnsAndWhatIsLeft(e));
        e.holds("Throws IndexOutOfBoundsException if there is no such chimney", () -> noSuchSmoke(e));
        e.holds("Throws IllegalArgumentException if from or to is out of range", () -> smokeOutOfRange(e));
    }

    /** Chimney 0: 5 4 3 2 1 0 0 and so on from the tick 2 on. */
    private static ShadeCards ofSeven() {
        ShadeCards cards = new ShadeCards();
        cards.setChimney(0, 9, 0, 7, 2);
        return cards;
    }

    private static void bothAmongThem(Edges e) {
        ShadeCards cards = ofSeven();
        for (boolean byTurns : Edges.WAYS) {
            e.same("one tick alone", 5, cards.smoke(0, 2, 2, byTurns));
            e.same("two ticks", 9, cards.smoke(0, 2, 3, byTurns));
            e.same("the last of a turn and the first of the next", 5, cards.smoke(0, 8, 9, byTurns));
            e.same("the ticks ahead of the first stoking", 0, cards.smoke(0, 0, 1, byTurns));
            e.same("the first stoking among them", 5, cards.smoke(0, 0, 2, byTurns));
            e.same("a whole day: thirteen turns of 15, and 5, 4, 3", 207, cards.smoke(0, 0, 95, byTurns));
        }
    }

    private static void smokeFrom(Edges e) {
        for (boolean byTurns : Edges.WAYS) {
            e.range(0, 95, Edges.OUT_OF_RANGE, (x, value) -> x.smoke(7, value, 95, byTurns));
            e.same("from the first tick", 2, new ShadeCards().smoke(0, 0, 0, byTurns));
            e.same("from the last tick", 2, new ShadeCards().smoke(3, 95, 95, byTurns));
        }
    }

    private static void smokeTo(Edges e) {
        for (boolean byTurns : Edges.WAYS) {
            e.range(0, 95, Edges.OUT_OF_RANGE, (x, value) -> x.smoke(7, 0, value, byTurns));
            e.range(40, 95, Edges.OUT_OF_RANGE, (x, value) -> x.smoke(0, 40, value, byTurns));
            e.range(95, 95, Edges.OUT_OF_RANGE, (x, value) -> x.smoke(0, 95, value, byTurns));
            e.refuses("from 1 to 0", Edges.OUT_OF_RANGE, x -> x.smoke(0, 1, 0, byTurns));
        }
    }

    private static void turnsAndWhatIsLeft(Edges e) {
        int[] ofTurn = {5, 4, 3, 2, 1, 0, 0};
        ShadeCards byTicks = ofSeven();
        ShadeCards byTurns = ofSeven();
        for (int from = 0; from < 18; from++) {
            int due = 0;
            for (int to = from; to < from + 22; to++) {
                due += to < 2 ? 0 : ofTurn[(to - 2) % 7];
                e.same("by ticks, " + from + " to " + to, due, byTicks.smoke(0, from, to, false));
                e.same("by turns, " + from + " to " + to, due, byTurns.smoke(0, from, to, true));
            }
        }
        for (boolean way : Edges.WAYS) {
            ShadeCards edge = new ShadeCards();
            edge.setChimney(0, 9, 2, 2, 0);
            e.same("the shortest turn, a whole day", 480, edge.smoke(0, 0, 95, way));
            edge.setChimney(0, 9, 2, 2, 11);
            e.same("several turns ahead of the first stoking", 0, edge.smoke(0, 0, 0, way));
            e.same("just ahead of it", 0, edge.smoke(0, 0, 10, way));
            e.same("with it", 5, edge.smoke(0, 0, 11, way));
            edge.setChimney(0, 9, 2, 12, 11);
            e.same("the longest one from the last beginning, a whole day: seven turns of 25, and 5", 180,
                    edge.smoke(0, 0, 95, way));
            e.same("one tick less than a turn", 20, edge.smoke(0, 12, 22, way));
            e.same("just a turn", 25, edge.smoke(0, 12, 23, way));
            e.same("one tick more than a turn", 30, edge.smoke(0, 12, 24, way));
        }
    }

    private static void noSuchSmoke(Edges e) {
        for (boolean byTurns : Edges.WAYS) {
            e.range(0, 7, Edges.NO_SUCH, (x, value) -> x.smoke(value, 0, 95, byTurns));
            e.refuses("backwards, too", Edges.NO_SUCH, x -> x.smoke(8, 1, 0, byTurns));
        }
    }

    private static void smokeOutOfRange(Edges e) {
        for (boolean byTurns : Edges.WAYS) {
            e.refuses("both too small", Edges.OUT_OF_RANGE, x -> x.smoke(0, -2, -1, byTurns));
            e.refuses("both too great", Edges.OUT_OF_RANGE, x -> x.smoke(0, 96, 97, byTurns));
            e.refuses("both far off", Edges.OUT_OF_RANGE,
                    x -> x.smoke(0, Integer.MIN_VALUE, Integer.MAX_VALUE, byTurns));
            e.refuses("backwards", Edges.OUT_OF_RANGE, x -> x.smoke(0, 95, 94, byTurns));
        }
    }

    private static void greyOf(Edges e) {
        e.in("Promise 13: greyOf");
        e.holds("Returns the grey of an hour.", () -> firstAndLastGrey(e));
        e.holds("hour: 0 to 23", () -> hourAtTheDaysEnd(e));
        e.holds("Throws IllegalArgumentException if hour is out of range",
                () -> e.range(0, 23, Edges.OUT_OF_RANGE, (x, value) -> x.greyOf(value)));
    }

    private static void firstAndLastGrey(Edges e) {
        ShadeCards cards = new ShadeCards();
        cards.setGrey(0, 4);
        cards.setGrey(23, 1);
        e.same("the first hour", 4, cards.greyOf(0));
        e.same("the hour behind it", 0, cards.greyOf(1));
        e.same("the last hour but one", 0, cards.greyOf(22));
        e.same("the last hour", 1, cards.greyOf(23));
    }

    /** The sky stays as it is, whatever the hour of the tick at hand. */
    private static void hourAtTheDaysEnd(Edges e) {
        ShadeCards cards = new ShadeCards();
        cards.setGrey(0, 2);
        cards.setGrey(23, 3);
        for (int ticks : new int[] {95, 1, 95, 1}) {
            cards.pass(ticks);
            e.same("the first hour", 2, cards.greyOf(0));
            e.same("the last hour", 3, cards.greyOf(23));
        }
    }

    private static void time(Edges e) {
        e.in("Promise 14: time");
        e.holds("Returns 96 times the day, and the tick at hand, together.", () -> timeOfDays(e));
    }

    private static void timeOfDays(Edges e) {
        ShadeCards cards = new ShadeCards();
        e.same("the first tick of the first day", 0, cards.time());
        cards.pass(95);
        e.same("its last tick", 95, cards.time());
        cards.pass(1);
        e.same("the first tick of the next day", 96, cards.time());
        cards.pass(95);
        e.same("its last tick", 191, cards.time());
        cards.pass(2);
        e.same("the second tick of the third day", 193, cards.time());
        cards.undo();
        e.same("back over the day's end", 191, cards.time());
    }
}
