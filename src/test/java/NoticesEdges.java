/** The edges of notices and of fines: promises 23 to 29. */
final class NoticesEdges {
    private NoticesEdges() {
    }

    static void all(Edges e) {
        notices(e);
        ofANotice(e);
        wouldAppeal(e);
        finesOf(e);
        worstChimney(e);
    }

    /** Chimney 0, limit 4, patience 1: notices in the ticks 0 (grey), 2 (grey), 4 and 6. */
    private static ShadeCards four() {
        ShadeCards cards = Scenes.watching(4, 1);
        cards.setGrey(0, 3);
        Scenes.smoke(cards, 4, 0, 4, 0, 4, 0, 4);
        return cards;
    }

    private static void notices(Edges e) {
        e.in("Promise 23: notices");
        e.holds("Returns how many notices there are.", () -> {
            e.same("none", 0, new ShadeCards().notices());
            e.same("one", 1, Scenes.noticed().notices());
            e.same("nineteen", 19, Scenes.nineteen().notices());
            ShadeCards cards = Scenes.twenty();
            e.same("twenty", 20, cards.notices());
            cards.pass(200);
            e.same("no more than twenty", 20, cards.notices());
            cards.undo();
            cards.undo();
            e.same("undone", 19, cards.notices());
            ShadeCards upheld = four();
            upheld.appeal(0);
            e.same("upheld ones are notices, too", 4, upheld.notices());
        });
    }

    private static void ofANotice(Edges e) {
        e.in("Promise 24: chimneyOf");
        e.holds("Returns the chimney of a notice.", () -> chimneys(e));
        e.holds("Throws IndexOutOfBoundsException if there is no such notice", () -> e.notices(ShadeCards::chimneyOf));
        e.in("Promise 25: fineOf");
        e.holds("Returns the fine of a notice.", () -> fines(e));
        e.holds("Throws IndexOutOfBoundsException if there is no such notice", () -> e.notices(ShadeCards::fineOf));
        e.in("Promise 26: stands");
        e.holds("Tells whether a notice stands.", () -> {
            ShadeCards cards = four();
            e.same("not upheld", false, cards.appeal(3));
            e.same("upheld", true, cards.appeal(0));
            boolean[] due = {false, true, true, true};
            for (int notice = 0; notice < 4; notice++) {
                e.same("stands: " + notice, due[notice], cards.stands(notice));
            }
        });
        e.holds("Throws IndexOutOfBoundsException if there is no such notice", () -> e.notices(ShadeCards::stands));
    }

    private static void chimneys(Edges e) {
        ShadeCards cards = new ShadeCards();
        cards.setChimney(0, 9, 2, 2, 0);
        cards.setChimney(7, 9, 2, 2, 0);
        cards.watch(2, 7);
        cards.pass(3);
        cards.watch(0, 0);
        cards.pass(3);
        e.same("the last chimney", 7, cards.chimneyOf(0));
        e.same("the first chimney", 0, cards.chimneyOf(1));
        cards.setChimney(7, 0, 0, 2, 0);
        cards.watch(2, -1);
        e.same("whatever it does now", 7, cards.chimneyOf(0));
        e.same("the last of twenty", 2, Scenes.twenty().chimneyOf(19));
    }

    private static void fines(Edges e) {
        ShadeCards cards = four();
        int[] due = {10, 20, 30, 40};
        for (int notice = 0; notice < 4; notice++) {
            e.same("fine of " + notice, due[notice], cards.fineOf(notice));
        }
        cards.appeal(0);
        cards.appeal(1);
        for (int notice = 0; notice < 4; notice++) {
            e.same("behind appeals, fine of " + notice, due[notice], cards.fineOf(notice));
        }
        e.same("the most", 200, Scenes.twenty().fineOf(19));
    }

    private static void wouldAppeal(Edges e) {
        e.in("Promise 27: wouldAppeal");
        e.holds("Tells what an appeal against a notice would come to: 0 it would be upheld, as the sky was grey;",
                () -> e.same("grey", 0, four().wouldAppeal(1)));
        e.holds("1 it would be, as the shade was less (and the sky was not grey);", () -> greyOrLess(e));
        e.holds("2 it would not be;", () -> {
            e.same("the first behind the grey hour", 2, four().wouldAppeal(2));
            ShadeCards cards = four();
            cards.setGrey(1, 2);
            e.same("asked again", 2, cards.wouldAppeal(3));
            e.same("it was only asked", false, cards.appeal(3));
        });
        e.holds("3 one was made.", () -> {
            ShadeCards cards = four();
            cards.appeal(0);
            cards.appeal(3);
            e.same("upheld", 3, cards.wouldAppeal(0));
            e.same("not upheld", 3, cards.wouldAppeal(3));
            e.same("none made", 0, cards.wouldAppeal(1));
            cards.undo();
            e.same("undone", 2, cards.wouldAppeal(3));
        });
        e.holds("Throws IndexOutOfBoundsException if there is no such notice",
                () -> e.notices(ShadeCards::wouldAppeal));
    }

    private static void greyOrLess(Edges e) {
        ShadeCards less = Scenes.watching(4, 2);
        less.setBias(0, 1);
        Scenes.smoke(less, 3, 4);
        e.same("less", 1, less.wouldAppeal(0));
        ShadeCards both = Scenes.watching(4, 2);
        both.setBias(0, 1);
        both.setGrey(0, 3);
        Scenes.smoke(both, 3, 4);
        e.same("less, and grey", 0, both.wouldAppeal(0));
        ShadeCards apart = Scenes.watching(4, 2);
        apart.setBias(0, 1);
        Scenes.smoke(apart, 3);
        apart.setGrey(0, 4);
        Scenes.smoke(apart, 4);
        e.same("less in the one tick, and grey in the other", 0, apart.wouldAppeal(0));
    }

    private static void finesOf(Edges e) {
        e.in("Promise 28: finesOf");
        e.holds("Returns all fines of a chimney whose notices stand, together.", () -> allFines(e));
        e.holds("byAccounts: false: told by notices; true: told by fines that came, less those that were given back "
                + "(the same)", () -> bothWays(e));
        e.holds("Throws IndexOutOfBoundsException if there is no such chimney", () -> {
            for (boolean byAccounts : Edges.WAYS) {
                e.range(0, 7, Edges.NO_SUCH, (x, value) -> x.finesOf(value, byAccounts));
            }
        });
    }

    private static void allFines(Edges e) {
        for (boolean byAccounts : Edges.WAYS) {
            e.same("no notice", 0, new ShadeCards().finesOf(7, byAccounts));
            e.same("one", 10, Scenes.noticed().finesOf(0, byAccounts));
            e.same("twenty: 10 to 200", 2100, Scenes.twenty().finesOf(2, byAccounts));
            e.same("of another chimney", 0, Scenes.twenty().finesOf(7, byAccounts));
            e.same("an upheld one, 200, does not stand", 1900, Scenes.full().finesOf(2, byAccounts));
        }
    }

    private static void bothWays(Edges e) {
        ShadeCards cards = four();
        int[] order = {0, 3, 2, 1};
        int[] due = {90, 90, 90, 70};
        for (int step = 0; step < 4; step++) {
            cards.appeal(order[step]);
            for (boolean byAccounts : Edges.WAYS) {
                e.same("behind the appeal against " + order[step], due[step], cards.finesOf(0, byAccounts));
            }
        }
        cards.undo();
        for (boolean byAccounts : Edges.WAYS) {
            e.same("undone", 90, cards.finesOf(0, byAccounts));
        }
        cards.save(0);
        cards.undo();
        cards.undo();
        cards.undo();
        for (boolean byAccounts : Edges.WAYS) {
            e.same("all undone", 100, cards.finesOf(0, byAccounts));
        }
        cards.restore(0);
        for (boolean byAccounts : Edges.WAYS) {
            e.same("restored", 90, cards.finesOf(0, byAccounts));
        }
    }

    /** Chimney 1 has the notices 0, 1, 3 (all grey) and 5, of 10 to 40; chimney 0 has 2 and 4, of 10 and 20. */
    private static ShadeCards twoAndFour() {
        ShadeCards cards = new ShadeCards();
        cards.setLimit(4, 1);
        cards.setChimney(0, 9, 0, 12, 11);
        cards.setChimney(1, 9, 0, 8, 0);
        cards.watch(0, 0);
        cards.watch(1, 1);
        for (int hour : new int[] {0, 2, 4}) {
            cards.setGrey(hour, 3);
        }
        cards.pass(25);
        return cards;
    }

    private static void worstChimney(Edges e) {
        e.in("Promise 29: worstChimney");
        e.holds("Returns the chimney with the most fines;", () -> {
            e.same("the only one, the first", 0, Scenes.noticed().worstChimney());
            ShadeCards last = new ShadeCards();
            last.setChimney(7, 9, 2, 2, 0);
            last.watch(0, 7);
            last.pass(3);
            e.same("the only one, the last", 7, last.worstChimney());
            ShadeCards fines = twoAndThree();
            e.same("10 and 20 of the lower one, 10, 20 and 30 of the higher one", 7, fines.worstChimney());
            ShadeCards few = twoAndFour();
            e.same("10 and 20 of the lower one, 10 to 40 of the higher one", 1, few.worstChimney());
            for (int upheld : new int[] {0, 1, 3}) {
                few.appeal(upheld);
            }
            e.same("10 and 20 of the lower one, 40 alone of the higher one", 1, few.worstChimney());
        });
        e.holds("of several the lowest;", () -> {
            for (int lower : new int[] {0, 6}) {
                ShadeCards cards = new ShadeCards();
                cards.setChimney(7, 9, 2, 2, 0);
                cards.setChimney(lower, 9, 2, 2, 0);
                cards.watch(0, 7);
                cards.pass(3);
                cards.watch(1, lower);
                cards.pass(3);
                e.same("10 of each, the higher one's came first", lower, cards.worstChimney());
            }
        });
        e.holds("NONE if no notice stands.", () -> {
            e.same("no notice", -1, new ShadeCards().worstChimney());
            ShadeCards upheld = Scenes.watched();
            upheld.setGrey(0, 3);
            upheld.pass(3);
            e.same("one that stands", 0, upheld.worstChimney());
            upheld.appeal(0);
            e.same("one that does not stand", -1, upheld.worstChimney());
        });
    }

    private static ShadeCards twoAndThree() {
        ShadeCards cards = Scenes.watching(4, 1);
        cards.setChimney(7, 9, 0, 8, 0);
        cards.watch(1, 7);
        Scenes.smoke(cards, 4, 0, 4, 0);
        cards.watch(0, -1);
        cards.pass(14);
        return cards;
    }
}
