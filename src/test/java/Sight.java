import java.util.function.Supplier;

/** All that can be seen of an object, as a text; the object is used up by it (some 400 calls). */
final class Sight {
    private Sight() {
    }

    static String of(ShadeCards cards) {
        StringBuilder seen = new StringBuilder();
        seen.append("time ").append(cards.time()).append(" pad ").append(cards.padLength()).append('/')
                .append(cards.fault()).append(" undoable ").append(cards.undoable()).append(" worst ")
                .append(cards.worstChimney()).append(" best ").append(cards.bestObserver());
        for (int hour = 0; hour < 24; hour++) {
            seen.append(hour == 0 ? " greys " : "").append(cards.greyOf(hour));
        }
        for (int chimney = 0; chimney < 8; chimney++) {
            appendChimney(seen, cards, chimney);
        }
        for (int observer = 0; observer < 3; observer++) {
            appendObserver(seen, cards, observer);
        }
        for (int notice = 0; notice < cards.notices(); notice++) {
            seen.append(" notice ").append(cards.chimneyOf(notice)).append('/').append(cards.fineOf(notice)).append('/')
                    .append(cards.stands(notice)).append('/').append(cards.wouldAppeal(notice));
        }
        seen.append(" coming ").append(cards.noticesIn(9)).append('/').append(cards.mildLimit(9));
        seen.append(" limit ").append(cards.setLimit(1, 1)).append(" noticesIn ").append(cards.noticesIn(1));
        cards.undo();
        for (int slot = 0; slot < 2; slot++) {
            int chosen = slot;
            seen.append(" slot ").append(answer(() -> cards.restore(chosen))).append('/').append(cards.time());
        }
        for (int back = 0; back < 7; back++) {
            seen.append(" undo ").append(answer(cards::undo)).append('/').append(cards.time()).append('/')
                    .append(cards.notices());
        }
        return seen.toString();
    }

    /** All but the history and the slots; the object is used up by it, too. */
    static String stateOf(ShadeCards cards) {
        String seen = of(cards);
        int history = seen.indexOf(" undoable ");
        int slots = seen.indexOf(" slot ");
        return seen.substring(0, history) + seen.substring(seen.indexOf(" worst "), slots);
    }

    private static void appendChimney(StringBuilder seen, ShadeCards cards, int chimney) {
        seen.append("\n chimney ").append(cards.shadeOf(chimney, 0)).append('/').append(cards.shadeOf(chimney, 11))
                .append('/').append(cards.shadeOf(chimney, 50)).append('/').append(cards.smoke(chimney, 0, 95, false))
                .append('/').append(cards.nextStoking(chimney, 0)).append('/').append(cards.nextStoking(chimney, 95))
                .append(" fines ").append(cards.finesOf(chimney, false)).append('/')
                .append(cards.finesOf(chimney, true)).append(" readings");
        for (int limit = 0; limit <= 5; limit++) {
            seen.append(' ').append(cards.readingsFrom(chimney, limit));
        }
        seen.append(" row ").append(cards.longestRow(chimney, 3, true)).append(" at ")
                .append(cards.readingOf(chimney, 0)).append('/').append(cards.readingOf(chimney, 9));
    }

    private static void appendObserver(StringBuilder seen, ShadeCards cards, int observer) {
        seen.append("\n observer ").append(cards.watchedBy(observer)).append('/').append(cards.tirednessOf(observer))
                .append('/').append(cards.errorsOf(observer)).append(" would read");
        for (int chimney = 0; chimney < 8; chimney++) {
            seen.append(' ').append(cards.wouldRead(observer, chimney));
        }
    }

    /** What a call answers, or the name of what it throws. */
    static Object answer(Supplier<Object> call) {
        try {
            return call.get();
        } catch (RuntimeException e) {
            return "throws." + e.getClass().getSimpleName();
        }
    }
}
