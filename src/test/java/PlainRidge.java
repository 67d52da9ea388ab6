import java.util.ArrayDeque;
import java.util.ArrayList;
import java.util.Deque;
import java.util.List;
import java.util.regex.Matcher;
import java.util.regex.Pattern;

/**
 * The document once more, told in another way, for comparison: a log of all ticks from which everything is looked up
 * anew, states that are copied whole, and texts by a regular expression.
 */
final class PlainRidge {
    private static final String PART = "(o[0-2][0-7]|r[0-2]|f[0-7][0-9]|d[0-7][0-2]"
            + "|g([0-9]|1[0-9]|2[0-3])=[0-4]|a([0-9]|1[0-9])|\\.[1-9]?)";
    private static final Pattern TEXT = Pattern.compile(PART + "(;" + PART + ")*");

    private record Tick(int grey, int[] shades, int[] readings) {
    }

    private static final class Notice {
        int chimney;
        int at;
        int limit;
        int patience;
        int fine;
        boolean appealed;
        boolean stands = true;

        Notice copy() {
            Notice copy = new Notice();
            copy.chimney = chimney;
            copy.at = at;
            copy.limit = limit;
            copy.patience = patience;
            copy.fine = fine;
            copy.appealed = appealed;
            copy.stands = stands;
            return copy;
        }
    }

    private static final class State {
        int[][] chimneys = new int[8][];
        int[] greys = new int[24];
        int[] watched = {-1, -1, -1};
        int[] biases = new int[3];
        int[] tired = new int[3];
        int[] errors = new int[3];
        int[] reads = new int[3];
        int limit = 3;
        int patience = 3;
        List<Tick> log = new ArrayList<>();
        List<Notice> notices = new ArrayList<>();

        State copy() {
            State copy = new State();
            for (int chimney = 0; chimney < 8; chimney++) {
                copy.chimneys[chimney] = chimneys[chimney].clone();
            }
            copy.greys = greys.clone();
            copy.watched = watched.clone();
            copy.biases = biases.clone();
            copy.tired = tired.clone();
            copy.errors = errors.clone();
            copy.reads = reads.clone();
            copy.limit = limit;
            copy.patience = patience;
            copy.log = new ArrayList<>(log);
            for (Notice notice : notices) {
                copy.notices.add(notice.copy());
            }
            return copy;
        }

        int shade(int chimney, int tick) {
            int[] it = chimneys[chimney];
            int last = -1;
            for (int stoked = it[3]; stoked <= tick; stoked += it[2]) {
                last = stoked;
            }
            return last < 0 ? 0 : held((it[0] + 1) / 2 + it[1] - (tick - last));
        }

        int reading(int observer, int chimney, int tick) {
            int shade = shade(chimney, tick);
            if (greys[tick / 4] >= 3 && shade <= 2) {
                return 0;
            }
            return held(shade + biases[observer] + (tired[observer] >= 12 ? -1 : 0));
        }

        /** The readings of a chimney on the day at hand, by ticks. */
        int[] today(int chimney) {
            int[] today = new int[96];
            for (int tick = 0; tick < 96; tick++) {
                int at = log.size() / 96 * 96 + tick;
                today[tick] = at < log.size() ? log.get(at).readings[chimney] : -1;
            }
            return today;
        }

        int pass(int ticks) {
            int before = notices.size();
            for (int passed = 0; passed < ticks; passed++) {
                passOne();
            }
            return notices.size() - before;
        }

        void passOne() {
            int at = log.size();
            int[] shades = new int[8];
            int[] readings = {-1, -1, -1, -1, -1, -1, -1, -1};
            for (int chimney = 0; chimney < 8; chimney++) {
                shades[chimney] = shade(chimney, at % 96);
            }
            for (int observer = 0; observer < 3; observer++) {
                int chimney = watched[observer];
                if (chimney >= 0) {
                    int read = reading(observer, chimney, at % 96);
                    readings[chimney] = Math.max(readings[chimney], read);
                    errors[observer] += Math.abs(read - shades[chimney]);
                    reads[observer]++;
                }
            }
            for (int observer = 0; observer < 3; observer++) {
                tired[observer] = watched[observer] >= 0 ? tired[observer] + 1 : 0;
            }
            log.add(new Tick(greys[at % 96 / 4], shades, readings));
            for (int chimney = 0; chimney < 8; chimney++) {
                if (rowAt(chimney, at) == patience && notices.size() < 20) {
                    addNotice(chimney, at);
                }
            }
        }

        private int rowAt(int chimney, int at) {
            int row = 0;
            for (int back = at; back >= at / 96 * 96; back--) {
                if (log.get(back).readings[chimney] < limit) {
                    break;
                }
                row++;
            }
            return row;
        }

        private void addNotice(int chimney, int at) {
            Notice notice = new Notice();
            notice.chimney = chimney;
            notice.at = at;
            notice.limit = limit;
            notice.patience = patience;
            notices.add(notice);
            int standing = 0;
            for (Notice other : notices) {
                standing += other.stands && other.chimney == chimney ? 1 : 0;
            }
            notice.fine = 10 * standing;
        }

        int outcome(int number) {
            Notice notice = notices.get(number);
            if (notice.appealed) {
                return 3;
            }
            boolean less = false;
            for (int at = notice.at - notice.patience + 1; at <= notice.at; at++) {
                if (log.get(at).grey >= 3) {
                    return 0;
                }
                less |= log.get(at).shades[notice.chimney] < notice.limit;
            }
            return less ? 1 : 2;
        }

        boolean appeal(int number) {
            boolean upheld = outcome(number) < 2;
            notices.get(number).appealed = true;
            notices.get(number).stands = !upheld;
            return upheld;
        }

        int standing() {
            int standing = 0;
            for (Notice notice : notices) {
                standing += notice.stands ? 1 : 0;
            }
            return standing;
        }
    }

    private State now = new State();
    private final Deque<State> history = new ArrayDeque<>();
    private final State[] slots = new State[2];
    private String pad = "";

    PlainRidge() {
        for (int chimney = 0; chimney < 8; chimney++) {
            now.chimneys[chimney] = new int[] {3, 0, 4, chimney % 4};
        }
    }

    private static int held(int shade) {
        return Math.min(5, Math.max(0, shade));
    }

    private static void exists(int number, int count) {
        if (number < 0 || number >= count) {
            throw new IndexOutOfBoundsException();
        }
    }

    private static void range(int value, int least, int most) {
        if (value < least || value > most) {
            throw new IllegalArgumentException();
        }
    }

    private void change() {
        history.addLast(now.copy());
        if (history.size() > 6) {
            history.removeFirst();
        }
    }

    int setChimney(int chimney, int fire, int damp, int turn, int begin) {
        exists(chimney, 8);
        range(fire, 0, 9);
        range(damp, 0, 2);
        range(turn, 2, 12);
        range(begin, 0, 11);
        change();
        now.chimneys[chimney] = new int[] {fire, damp, turn, begin};
        return now.shade(chimney, now.log.size() % 96);
    }

    int setGrey(int hour, int grey) {
        range(hour, 0, 23);
        range(grey, 0, 4);
        change();
        int before = now.greys[hour];
        now.greys[hour] = grey;
        return before;
    }

    int watch(int observer, int chimney) {
        exists(observer, 3);
        range(chimney, -1, 7);
        change();
        int before = now.watched[observer];
        now.watched[observer] = chimney;
        return before;
    }

    int setBias(int observer, int bias) {
        exists(observer, 3);
        range(bias, -1, 1);
        change();
        int before = now.biases[observer];
        now.biases[observer] = bias;
        return before + 1;
    }

    int setLimit(int limit, int patience) {
        range(limit, 1, 5);
        range(patience, 1, 8);
        change();
        int before = now.limit;
        now.limit = limit;
        now.patience = patience;
        return before;
    }

    int pass(int ticks) {
        range(ticks, 1, 200);
        change();
        return now.pass(ticks);
    }

    boolean appeal(int notice) {
        exists(notice, now.notices.size());
        if (now.notices.get(notice).appealed) {
            throw new IllegalStateException();
        }
        change();
        return now.appeal(notice);
    }

    int read() {
        if (fault() != -1) {
            throw new IllegalArgumentException();
        }
        change();
        int before = now.notices.size();
        for (String part : pad.split(";")) {
            carryOut(part);
        }
        pad = "";
        return now.notices.size() - before;
    }

    private void carryOut(String part) {
        String rest = part.substring(1);
        int first = rest.isEmpty() ? -1 : rest.charAt(0) - '0';
        int second = rest.length() < 2 ? -1 : rest.charAt(1) - '0';
        switch (part.charAt(0)) {
            case 'o' -> now.watched[first] = second;
            case 'r' -> now.watched[first] = -1;
            case 'f' -> now.chimneys[first][0] = second;
            case 'd' -> now.chimneys[first][1] = second;
            case 'g' -> now.greys[Integer.parseInt(rest.split("=")[0])] = Integer.parseInt(rest.split("=")[1]);
            case 'a' -> {
                int notice = Integer.parseInt(rest);
                if (notice < now.notices.size() && !now.notices.get(notice).appealed) {
                    now.appeal(notice);
                }
            }
            default -> now.pass(rest.isEmpty() ? 1 : 10 * first);
        }
    }

    int shadeOf(int chimney, int tick) {
        exists(chimney, 8);
        range(tick, 0, 95);
        return now.shade(chimney, tick);
    }

    int nextStoking(int chimney, int from) {
        exists(chimney, 8);
        range(from, 0, 95);
        for (int tick = now.chimneys[chimney][3]; tick < 96; tick += now.chimneys[chimney][2]) {
            if (tick >= from) {
                return tick;
            }
        }
        return -1;
    }

    int smoke(int chimney, int from, int to) {
        exists(chimney, 8);
        range(from, 0, 95);
        range(to, from, 95);
        return together(chimney, from, to);
    }

    private int together(int chimney, int from, int to) {
        int together = 0;
        for (int tick = from; tick <= to; tick++) {
            together += now.shade(chimney, tick);
        }
        return together;
    }

    int greyOf(int hour) {
        range(hour, 0, 23);
        return now.greys[hour];
    }

    int time() {
        return now.log.size();
    }

    int watchedBy(int observer) {
        exists(observer, 3);
        return now.watched[observer];
    }

    int tirednessOf(int observer) {
        exists(observer, 3);
        return now.tired[observer];
    }

    int wouldRead(int observer, int chimney) {
        exists(observer, 3);
        exists(chimney, 8);
        return now.reading(observer, chimney, now.log.size() % 96);
    }

    int readingOf(int chimney, int tick) {
        exists(chimney, 8);
        range(tick, 0, 95);
        return now.today(chimney)[tick];
    }

    int readingsFrom(int chimney, int limit) {
        exists(chimney, 8);
        range(limit, 0, 5);
        int count = 0;
        for (int reading : now.today(chimney)) {
            count += reading >= limit ? 1 : 0;
        }
        return count;
    }

    int longestRow(int chimney, int limit) {
        exists(chimney, 8);
        range(limit, 0, 5);
        StringBuilder marks = new StringBuilder();
        for (int reading : now.today(chimney)) {
            marks.append(reading >= limit ? 'x' : ' ');
        }
        int longest = 0;
        for (String row : marks.toString().split(" ")) {
            longest = Math.max(longest, row.length());
        }
        return longest;
    }

    int errorsOf(int observer) {
        exists(observer, 3);
        return now.errors[observer];
    }

    int bestObserver() {
        int best = -1;
        for (int observer = 2; observer >= 0; observer--) {
            if (now.reads[observer] == 0) {
                continue;
            }
            if (best < 0 || (long) now.errors[observer] * now.reads[best]
                    <= (long) now.errors[best] * now.reads[observer]) {
                best = observer;
            }
        }
        return best;
    }

    int notices() {
        return now.notices.size();
    }

    int chimneyOf(int notice) {
        exists(notice, now.notices.size());
        return now.notices.get(notice).chimney;
    }

    int fineOf(int notice) {
        exists(notice, now.notices.size());
        return now.notices.get(notice).fine;
    }

    boolean stands(int notice) {
        exists(notice, now.notices.size());
        return now.notices.get(notice).stands;
    }

    int wouldAppeal(int notice) {
        exists(notice, now.notices.size());
        return now.outcome(notice);
    }

    int finesOf(int chimney) {
        exists(chimney, 8);
        int fines = 0;
        for (Notice notice : now.notices) {
            fines += notice.chimney == chimney && notice.stands ? notice.fine : 0;
        }
        return fines;
    }

    int worstChimney() {
        int worst = -1;
        for (int chimney = 7; chimney >= 0; chimney--) {
            if (finesOf(chimney) > 0 && (worst < 0 || finesOf(chimney) >= finesOf(worst))) {
                worst = chimney;
            }
        }
        return worst;
    }

    int toWatch(int ticks) {
        range(ticks, 1, 96);
        int from = now.log.size() % 96;
        int to = Math.min(95, from + ticks - 1);
        int best = -1;
        int most = -1;
        for (int a = 0; a < 8; a++) {
            for (int b = a + 1; b < 8; b++) {
                for (int c = b + 1; c < 8; c++) {
                    int sum = together(a, from, to) + together(b, from, to) + together(c, from, to);
                    int set = 1 << a | 1 << b | 1 << c;
                    if (sum > most || sum == most && set < best) {
                        most = sum;
                        best = set;
                    }
                }
            }
        }
        return best;
    }

    int noticesIn(int ticks) {
        range(ticks, 1, 200);
        return now.copy().pass(ticks);
    }

    int ticksToNotice(int chimney) {
        exists(chimney, 8);
        State tried = now.copy();
        int before = tried.notices.size();
        tried.pass(200);
        for (Notice notice : tried.notices.subList(before, tried.notices.size())) {
            if (notice.chimney == chimney) {
                return notice.at - now.log.size() + 1;
            }
        }
        return -1;
    }

    int mildLimit(int ticks) {
        range(ticks, 1, 200);
        for (int limit = 1; limit <= 5; limit++) {
            State tried = now.copy();
            tried.limit = limit;
            if (tried.pass(ticks) == 0) {
                return limit;
            }
        }
        return -1;
    }

    int put(long characters) {
        StringBuilder added = new StringBuilder();
        for (int shift = 56; shift >= 0; shift -= 8) {
            int code = (int) (characters >> shift) & 255;
            if (code == 0 && added.length() == 0 && shift > 0) {
                continue;
            }
            range(code, 33, 126);
            added.append((char) code);
        }
        if (pad.length() + added.length() > 60) {
            throw new IllegalStateException();
        }
        pad += added;
        return pad.length();
    }

    int wipe() {
        int before = pad.length();
        pad = "";
        return before;
    }

    int padLength() {
        return pad.length();
    }

    /** A text can go on if it is one, or if the search for one ran out of it. */
    int fault() {
        if (TEXT.matcher(pad).matches()) {
            return -1;
        }
        for (int length = 1; length <= pad.length(); length++) {
            Matcher matcher = TEXT.matcher(pad.substring(0, length));
            if (!matcher.matches() && !matcher.hitEnd()) {
                return length - 1;
            }
        }
        return pad.length();
    }

    int undo() {
        if (history.isEmpty()) {
            throw new IllegalStateException();
        }
        now = history.removeLast();
        return history.size();
    }

    int undoable() {
        return history.size();
    }

    int save(int slot) {
        exists(slot, 2);
        slots[slot] = now.copy();
        return now.standing();
    }

    int restore(int slot) {
        exists(slot, 2);
        if (slots[slot] == null) {
            throw new IllegalStateException();
        }
        change();
        now = slots[slot].copy();
        return now.standing();
    }
}
