/** Objects that several tests start from. */
final class Scenes {
    private Scenes() {
    }

    /** Chimney 0 has the shade 5 in every tick of the day. */
    static ShadeCards hot() {
        ShadeCards cards = new ShadeCards();
        cards.setChimney(0, 9, 2, 2, 0);
        return cards;
    }

    /** Chimney 0 has the shade 5 in every tick, observer 0 watches it. */
    static ShadeCards watched() {
        ShadeCards cards = hot();
        cards.watch(0, 0);
        return cards;
    }

    /** One notice against chimney 0, in the tick 2: not grey, not less. */
    static ShadeCards noticed() {
        ShadeCards cards = watched();
        cards.pass(3);
        return cards;
    }

    /** A full history, a saved slot 0, three notices (one appealed and upheld, one appealed in vain), a text. */
    static ShadeCards busy() {
        ShadeCards cards = watched();
        cards.setChimney(5, 9, 2, 2, 0);
        cards.watch(2, 5);
        cards.watch(1, 6);
        cards.setBias(1, 1);
        cards.setChimney(6, 3, 0, 2, 0);
        cards.setLimit(2, 3);
        cards.save(0);
        cards.pass(3);
        cards.appeal(0);
        cards.appeal(2);
        cards.setGrey(1, 4);
        cards.pass(6);
        return Check.write(cards, "o00;.2;q");
    }
}
