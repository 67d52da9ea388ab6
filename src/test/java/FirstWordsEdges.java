import java.util.ArrayList;
import java.util.List;
import java.util.function.Supplier;

/**
 * The document's first words, which the terms and the promises tell again: tried on the ridge as a whole. No object is
 * used for more than 512 calls, as what later calls answer is free.
 */
final class FirstWordsEdges {
    private FirstWordsEdges() {
    }

    static void all(Edges e) {
        e.in("What it is");
        e.holds("Smoke shade cards on a ridge with chimney turns, grey weather and appeals:", () -> story(e));
        e.holds("chimneys that are stoked by turns and smoke the more the hotter their fires and the damper their coal "
                + "are,", () -> smokeTheMore(e));
        e.holds("a sky that is grey by hours,", () -> greyByHours(e));
        e.holds("observers with cards and eyes of their own, who become tired and rest,", () -> eyesOfTheirOwn(e));
        e.holds("readings of a day,", () -> readingsOfADay(e));
        e.holds("notices for chimneys that smoke too long,", () -> tooLong(e));
        e.holds("fines that grow,", () -> finesGrow(e));
        e.holds("appeals that are upheld when the sky was grey or the smoke was less than it was read,",
                () -> appealsAsTold(e));
        e.holds("smoke in some ticks, told tick by tick and by whole turns,", () -> smokeBothWays(e));
        e.holds("the longest row of readings, told by going on and by trying all rows, readings above a limit,",
                () -> rowsBothWays(e));
        e.holds("fines, told by notices and by accounts,", () -> finesBothWays(e));
        e.holds("the chimneys that should be watched, told by trying all sets and by picking,",
                () -> watchedBothWays(e));
        e.holds("errors of observers,", () -> errors(e));
        e.holds("the next stoking,", () -> stokings(e));
        e.holds("notices to come, what appeals would come to,", () -> comeAsTold(e));
        e.holds("works that are read from texts, undo, and saved states.", () -> textsUndoAndSaving(e));
    }

    /** Chimneys 0 to 2 are read in different ways, under a sky that is grey by turns; many notices, none appealed. */
    private static ShadeCards mixed() {
        ShadeCards cards = new ShadeCards();
        cards.setChimney(0, 9, 0, 8, 0);
        cards.setChimney(1, 3, 1, 3, 2);
        cards.setChimney(2, 6, 2, 7, 5);
        cards.setBias(1, 1);
        cards.setBias(2, -1);
        cards.setGrey(1, 3);
        cards.setGrey(4, 4);
        for (int observer = 0; observer < 3; observer++) {
            cards.watch(observer, observer);
        }
        cards.setLimit(3, 2);
        cards.pass(40);
        return cards;
    }

    private static List<Supplier<ShadeCards>> scenes() {
        return List.of(ShadeCards::new, Scenes::busy, Scenes::full, FirstWordsEdges::mixed);
    }

    private static void story(Edges e) {
        ShadeCards cards = Scenes.hot();
        e.same("stoked in each second tick", 2, cards.nextStoking(0, 1));
        cards.setGrey(0, 3);
        cards.watch(0, 0);
        e.same("a notice in the tick 2, none behind it", 1, cards.pass(5));
        e.same("its fine", 10, cards.finesOf(0, false));
        e.same("the appeal, as the sky was grey", true, cards.appeal(0));
        e.same("the fine is given back", 0, cards.finesOf(0, false));
    }

    private static void smokeTheMore(Edges e) {
        for (int turn : new int[] {2, 5, 12}) {
            for (int begin : new int[] {0, 11}) {
                for (int damp = 0; damp <= 2; damp++) {
                    for (int fire = 1; fire <= 9; fire++) {
                        boolean more = isEverywhereAsMuch(made(fire, damp, turn, begin), made(fire - 1, damp, turn, begin))
                                && (damp == 0
                                || isEverywhereAsMuch(made(fire, damp, turn, begin), made(fire, damp - 1, turn, begin)));
                        e.same("fire " + fire + ", damp " + damp + ", turn " + turn, true, more);
                    }
                }
                e.same("the coldest fire, dry", 0, made(0, 0, turn, begin).smoke(3, 0, 95, false));
            }
        }
        e.same("the hottest fire, damp, all day", 96 * 5, made(9, 2, 2, 0).smoke(3, 0, 95, false));
    }

    private static ShadeCards made(int fire, int damp, int turn, int begin) {
        ShadeCards cards = new ShadeCards();
        cards.setChimney(3, fire, damp, turn, begin);
        return cards;
    }

    private static boolean isEverywhereAsMuch(ShadeCards more, ShadeCards less) {
        for (int tick = 0; tick <= 95; tick++) {
            if (more.shadeOf(3, tick) < less.shadeOf(3, tick)) {
                return false;
            }
        }
        return true;
    }

    private static void greyByHours(Edges e) {
        ShadeCards cards = new ShadeCards();
        cards.setChimney(0, 3, 0, 2, 0);
        cards.setGrey(5, 4);
        cards.setGrey(23, 3);
        for (int tick = 0; tick <= 95; tick++) {
            boolean grey = tick / 4 == 5 || tick / 4 == 23;
            e.same("tick " + tick, grey ? 0 : 2 - tick % 2, cards.wouldRead(0, 0));
            cards.pass(1);
        }
    }

    private static void eyesOfTheirOwn(Edges e) {
        ShadeCards cards = new ShadeCards();
        cards.setChimney(0, 5, 0, 2, 0);
        for (int observer = 0; observer < 3; observer++) {
            cards.setBias(observer, observer - 1);
        }
        cards.watch(0, 0);
        cards.watch(2, 0);
        cards.pass(12);
        int[] due = {1, 3, 3};
        int[] tiredness = {12, 0, 12};
        for (int observer = 0; observer < 3; observer++) {
            e.same("what " + observer + " would read", due[observer], cards.wouldRead(observer, 0));
            e.same("the tiredness of " + observer, tiredness[observer], cards.tirednessOf(observer));
        }
        cards.watch(2, -1);
        cards.pass(2);
        e.same("rested", 4, cards.wouldRead(2, 0));
        e.same("still tired", 1, cards.wouldRead(0, 0));
    }

    private static void readingsOfADay(Edges e) {
        ShadeCards cards = Scenes.watched();
        for (int tick = 1; tick <= 95; tick++) {
            cards.pass(1);
            e.same("readings behind " + tick + " ticks", tick, cards.readingsFrom(0, 0));
        }
        cards.pass(1);
        e.same("readings of the new day", 0, cards.readingsFrom(0, 0));
    }

    private static void tooLong(Edges e) {
        for (int patience = 1; patience <= 8; patience++) {
            ShadeCards cards = Scenes.watching(5, patience);
            for (int row = 1; row <= 10; row++) {
                e.same("patience " + patience + ", row " + row, row == patience ? 1 : 0, Scenes.smoke(cards, 5));
            }
        }
    }

    private static void finesGrow(Edges e) {
        ShadeCards cards = Scenes.twenty();
        for (int notice = 0; notice < 20; notice++) {
            e.same("the fine of " + notice, 10 * (notice + 1), cards.fineOf(notice));
        }
    }

    private static void appealsAsTold(Edges e) {
        ShadeCards cards = mixed();
        int[] outcomes = new int[4];
        for (int notice = 0; notice < cards.notices(); notice++) {
            int told = cards.wouldAppeal(notice);
            outcomes[told]++;
            e.same("the appeal against " + notice + ", told as " + told, told < 2, cards.appeal(notice));
            e.same("whether " + notice + " stands then", told == 2, cards.stands(notice));
            e.same("what an appeal would come to then", 3, cards.wouldAppeal(notice));
        }
        e.same("there are some of each kind", true, outcomes[0] > 0 && outcomes[1] > 0 && outcomes[2] > 0);
    }

    private static void smokeBothWays(Edges e) {
        List<Supplier<ShadeCards>> all = new ArrayList<>(scenes());
        all.add(FirstWordsEdges::ofAllKinds);
        for (Supplier<ShadeCards> scene : all) {
            for (int chimney = 0; chimney < 8; chimney++) {
                int uneven = 0;
                for (int from = 0; from <= 95; from++) {
                    uneven += unevenSmokes(scene.get(), chimney, from);
                }
                e.same("uneven smokes of " + chimney, 0, uneven);
            }
        }
    }

    /** The coldest and the hottest fires, dry and damp, the shortest and the longest turns, the first and the last begin. */
    private static ShadeCards ofAllKinds() {
        ShadeCards cards = new ShadeCards();
        int[][] kinds = {{0, 2, 2, 0}, {0, 1, 12, 11}, {0, 0, 2, 11}, {9, 2, 12, 0}, {9, 0, 11, 11}, {1, 0, 3, 1},
            {2, 2, 7, 5}, {8, 1, 5, 10}};
        for (int chimney = 0; chimney < 8; chimney++) {
            int[] kind = kinds[chimney];
            cards.setChimney(chimney, kind[0], kind[1], kind[2], kind[3]);
        }
        return cards;
    }

    private static int unevenSmokes(ShadeCards cards, int chimney, int from) {
        int uneven = 0;
        int together = 0;
        for (int to = from; to <= 95; to++) {
            together += cards.shadeOf(chimney, to);
            uneven += cards.smoke(chimney, from, to, false) == together ? 0 : 1;
            uneven += cards.smoke(chimney, from, to, true) == together ? 0 : 1;
        }
        return uneven;
    }

    private static void rowsBothWays(Edges e) {
        for (Supplier<ShadeCards> scene : scenes()) {
            for (int chimney = 0; chimney < 8; chimney++) {
                for (int limit = 0; limit <= 5; limit++) {
                    rowBothWays(e, scene.get(), chimney, limit);
                }
            }
        }
    }

    private static void rowBothWays(Edges e, ShadeCards cards, int chimney, int limit) {
        int row = 0;
        int longest = 0;
        int count = 0;
        for (int tick = 0; tick <= 95; tick++) {
            boolean holds = cards.readingOf(chimney, tick) >= limit;
            row = holds ? row + 1 : 0;
            longest = Math.max(longest, row);
            count += holds ? 1 : 0;
        }
        e.same("by ticks, " + chimney + ", " + limit, longest, cards.longestRow(chimney, limit, false));
        e.same("by rows, " + chimney + ", " + limit, longest, cards.longestRow(chimney, limit, true));
        e.same("readings of " + chimney + " from " + limit, count, cards.readingsFrom(chimney, limit));
    }

    private static void finesBothWays(Edges e) {
        for (Supplier<ShadeCards> scene : scenes()) {
            for (int chimney = 0; chimney < 8; chimney++) {
                ShadeCards cards = scene.get();
                int due = standingFines(cards, chimney);
                sameFines(e, cards, chimney, due);
                for (int notice = 0; notice < cards.notices(); notice++) {
                    boolean back = cards.wouldAppeal(notice) < 3 && cards.appeal(notice);
                    due -= back && cards.chimneyOf(notice) == chimney ? cards.fineOf(notice) : 0;
                    sameFines(e, cards, chimney, due);
                }
            }
        }
    }

    private static void sameFines(Edges e, ShadeCards cards, int chimney, int due) {
        for (boolean byAccounts : Edges.WAYS) {
            e.same("fines of " + chimney + ", by accounts " + byAccounts, due, cards.finesOf(chimney, byAccounts));
        }
    }

    private static int standingFines(ShadeCards cards, int chimney) {
        int together = 0;
        for (int notice = 0; notice < cards.notices(); notice++) {
            together += cards.stands(notice) && cards.chimneyOf(notice) == chimney ? cards.fineOf(notice) : 0;
        }
        return together;
    }

    private static void watchedBothWays(Edges e) {
        for (Supplier<ShadeCards> scene : scenes()) {
            ShadeCards cards = scene.get();
            for (int ticks = 1; ticks <= 96; ticks++) {
                int sets = cards.toWatch(ticks, false);
                e.same("for " + ticks + " ticks", sets, cards.toWatch(ticks, true));
                e.same("chimneys for " + ticks + " ticks", 3, Integer.bitCount(sets));
                e.same("other chimneys for " + ticks + " ticks", 0, sets >> 8);
            }
        }
    }

    private static void errors(Edges e) {
        ShadeCards cards = Scenes.hot();
        cards.setBias(0, -1);
        cards.watch(0, 0);
        cards.watch(1, 0);
        for (int tick = 1; tick <= 30; tick++) {
            cards.pass(1);
            e.same("of the one, behind " + tick, tick + Math.max(0, tick - 12), cards.errorsOf(0));
            e.same("of the other, behind " + tick, Math.max(0, tick - 12), cards.errorsOf(1));
        }
        e.same("of who rests", 0, cards.errorsOf(2));
    }

    private static void stokings(Edges e) {
        for (int turn = 2; turn <= 12; turn++) {
            for (int begin = 0; begin <= 11; begin++) {
                ShadeCards cards = made(9, 0, turn, begin);
                int due = -1;
                for (int from = 95; from >= 0; from--) {
                    due = from >= begin && (from - begin) % turn == 0 ? from : due;
                    e.same("turn " + turn + ", begin " + begin + ", from " + from, due, cards.nextStoking(3, from));
                }
            }
        }
    }

    private static void comeAsTold(Edges e) {
        for (Supplier<ShadeCards> scene : scenes()) {
            for (int ticks : new int[] {1, 2, 5, 30, 96, 97, 200}) {
                ShadeCards cards = scene.get();
                int told = cards.noticesIn(ticks);
                e.same("notices in " + ticks, told, cards.pass(ticks));
            }
            for (int chimney = 0; chimney < 8; chimney++) {
                int told = scene.get().ticksToNotice(chimney);
                e.same("ticks to a notice of " + chimney, told, ticksTillNotice(scene.get(), chimney));
            }
        }
    }

    private static int ticksTillNotice(ShadeCards cards, int chimney) {
        int notices = cards.notices();
        for (int ticks = 1; ticks <= 200; ticks++) {
            int come = cards.pass(1);
            for (int notice = notices; notice < notices + come; notice++) {
                if (cards.chimneyOf(notice) == chimney) {
                    return ticks;
                }
            }
            notices += come;
        }
        return ShadeCards.NONE;
    }

    private static void textsUndoAndSaving(Edges e) {
        ShadeCards told = mixed();
        told.save(1);
        Check.write(told, "o07;r1;f79;d72;g23=4;a0;a2;.9;a19;.").read();
        ShadeCards called = mixed();
        called.watch(0, 7);
        called.watch(1, -1);
        called.setChimney(7, 9, 2, 4, 3);
        called.setGrey(23, 4);
        called.appeal(0);
        called.appeal(2);
        called.pass(91);
        e.same("the text and the calls", Sight.stateOf(called), Sight.stateOf(told));
        Supplier<ShadeCards> read = () -> {
            ShadeCards cards = mixed();
            cards.save(1);
            Check.write(cards, "o07;f79;.9;a3").read();
            return cards;
        };
        ShadeCards undone = read.get();
        undone.undo();
        e.same("undone", Sight.stateOf(mixed()), Sight.stateOf(undone));
        ShadeCards restored = read.get();
        restored.restore(1);
        e.same("restored", Sight.stateOf(mixed()), Sight.stateOf(restored));
    }
}
