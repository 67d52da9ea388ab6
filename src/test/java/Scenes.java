/** Objects that several tests start from. */
final class Scenes {
    private Scenes() {
    }

    /** Chimney 0 has the shade 5 in every tick of the day. */
    static ShadeCards hot() {
        ShadeCards cards = new ShadeCards();
        cards.setChimney(0, 9, 2, 2, 0);
        return cards;
    }

    /** Chimney 0 has the shade 5 in every tick, observer 0 watches it. */
    static ShadeCards watched() {
        ShadeCards cards = hot();
        cards.watch(0, 0);
        return cards;
    }

    /** One notice against chimney 0, in the tick 2: not grey, not less. */
    static ShadeCards noticed() {
        ShadeCards cards = watched();
        cards.pass(3);
        return cards;
    }

    /** A full history, a saved slot 0, three notices (one appealed and upheld, one appealed in vain), a text. */
    static ShadeCards busy() {
        ShadeCards cards = watched();
        cards.setChimney(5, 9, 2, 2, 0);
        cards.watch(2, 5);
        cards.watch(1, 6);
        cards.setBias(1, 1);
        cards.setChimney(6, 3, 0, 2, 0);
        cards.setLimit(2, 3);
        cards.save(0);
        cards.pass(3);
        cards.appeal(0);
        cards.appeal(2);
        cards.setGrey(1, 4);
        cards.pass(6);
        return Check.write(cards, "o00;.2;q");
    }

    /** No notice, but the one that was there has been undone. */
    static ShadeCards noticeUndone() {
        ShadeCards cards = noticed();
        cards.undo();
        return cards;
    }

    /** Tick 49 of day 1: chimney 2 had a notice in each eighth tick, the next one would come with the tick 56. */
    static ShadeCards nineteen() {
        ShadeCards cards = new ShadeCards();
        cards.setChimney(2, 9, 0, 8, 0);
        cards.watch(1, 2);
        cards.setLimit(4, 1);
        cards.pass(145);
        return cards;
    }

    /** Tick 57 of day 1: all twenty notices, of chimney 2, none of them with reason for an appeal. */
    static ShadeCards twenty() {
        ShadeCards cards = nineteen();
        cards.pass(8);
        return cards;
    }

    /** The last tick of a day, twenty notices, a full history, both slots saved, a full pad without a fault. */
    static ShadeCards full() {
        ShadeCards cards = nineteen();
        cards.setGrey(14, 3);
        cards.save(0);
        cards.pass(40);
        cards.save(1);
        cards.appeal(0);
        cards.appeal(19);
        cards.pass(6);
        return Check.write(cards, ".;".repeat(28) + "r0;.");
    }

    /** Chimney 0 smokes just so much, one tick after the other; returns how many notices come. */
    static int smoke(ShadeCards cards, int... shades) {
        int come = 0;
        for (int shade : shades) {
            cards.setChimney(0, shade == 0 ? 0 : 2 * shade - 1, 0, 2, cards.time() % 2);
            come += cards.pass(1);
        }
        return come;
    }

    /** Observer 0 watches chimney 0, with this limit and this patience. */
    static ShadeCards watching(int limit, int patience) {
        ShadeCards cards = new ShadeCards();
        cards.watch(0, 0);
        cards.setLimit(limit, patience);
        return cards;
    }
}
