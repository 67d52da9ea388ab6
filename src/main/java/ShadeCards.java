import java.util.Arrays;

/** Smoke shade cards on a ridge with chimney turns, grey weather and appeals. */
public final class ShadeCards {
    public static final int NONE = -1;

    private static final int CHIMNEYS = 8;
    private static final int OBSERVERS = 3;
    private static final int HOURS = 24;
    private static final int TICKS_OF_HOUR = 4;
    private static final int TICKS_OF_DAY = 96;
    private static final int MOST_FIRE = 9;
    private static final int MOST_DAMP = 2;
    private static final int LEAST_TURN = 2;
    private static final int MOST_TURN = 12;
    private static final int MOST_BEGIN = 11;
    private static final int MOST_GREY = 4;
    private static final int GREY_SKY = 3;
    private static final int MOST_SHADE = 5;
    private static final int HIDDEN_SHADE = 2;
    private static final int TIRED = 12;
    private static final int MOST_PATIENCE = 8;
    private static final int MOST_NOTICES = 20;
    private static final int FINE_STEP = 10;
    private static final int MOST_TICKS = 200;
    private static final int WATCHED_CHIMNEYS = 3;
    private static final int PAD_SIZE = 60;
    private static final int CHARACTERS_OF_PUT = 8;
    private static final int HISTORY_SIZE = 6;
    private static final int SLOTS = 2;

    private static final int UPHELD_AS_GREY = 0;
    private static final int UPHELD_AS_LESS = 1;
    private static final int NOT_UPHELD = 2;
    private static final int APPEAL_MADE = 3;

    private final Ridge now = new Ridge();
    /** What is to come is tried here, so that no call needs a new ridge. */
    private final Ridge sketch = new Ridge();
    private final History history = new History();
    private final Slot[] slots = new Slot[SLOTS];
    private final Pad pad = new Pad();
    private final int[] smokes = new int[CHIMNEYS];

    public ShadeCards() {
        for (int slot = 0; slot < SLOTS; slot++) {
            slots[slot] = new Slot();
        }
    }

    // ---- changes

    public int setChimney(int chimney, int fire, int damp, int turn, int begin)
            throws IndexOutOfBoundsException, IllegalArgumentException {
        Chimney changed = chimneyOn(now, chimney);
        demand(isWithin(fire, 0, MOST_FIRE) && isWithin(damp, 0, MOST_DAMP));
        demand(isWithin(turn, LEAST_TURN, MOST_TURN) && isWithin(begin, 0, MOST_BEGIN));
        history.record(now);
        changed.fire = fire;
        changed.damp = damp;
        changed.turn = turn;
        changed.begin = begin;
        return changed.shadeAt(now.tick);
    }

    public int setGrey(int hour, int grey) throws IllegalArgumentException {
        demand(isWithin(hour, 0, HOURS - 1) && isWithin(grey, 0, MOST_GREY));
        history.record(now);
        int before = now.greyInHour(hour);
        now.changeGrey(hour, grey);
        return before;
    }

    public int watch(int observer, int chimney) throws IndexOutOfBoundsException, IllegalArgumentException {
        Observer changed = observerNow(observer);
        demand(chimney == NONE || isWithin(chimney, 0, CHIMNEYS - 1));
        history.record(now);
        int before = changed.watched;
        changed.watched = chimney;
        return before;
    }

    public int setBias(int observer, int bias) throws IndexOutOfBoundsException, IllegalArgumentException {
        Observer changed = observerNow(observer);
        demand(isWithin(bias, -1, 1));
        history.record(now);
        int before = changed.bias;
        changed.bias = bias;
        return before + 1;
    }

    public int setLimit(int limit, int patience) throws IllegalArgumentException {
        demand(isWithin(limit, 1, MOST_SHADE) && isWithin(patience, 1, MOST_PATIENCE));
        history.record(now);
        int before = now.limit;
        now.limit = limit;
        now.patience = patience;
        return before;
    }

    public int pass(int ticks) throws IllegalArgumentException {
        demand(isWithin(ticks, 1, MOST_TICKS));
        history.record(now);
        return now.passTicks(ticks);
    }

    public boolean appeal(int notice) throws IndexOutOfBoundsException, IllegalStateException {
        Notice appealed = noticeNow(notice);
        if (appealed.appealed) {
            throw new IllegalStateException("an appeal against this notice was made");
        }
        history.record(now);
        now.decide(appealed);
        return !appealed.standing;
    }

    public int read() throws IllegalArgumentException {
        demand(pad.findFault() == NONE);
        history.record(now);
        int before = now.noticeCount;
        pad.goToStart();
        for (int part = 0; part < PAD_SIZE && pad.takePart(); part++) {
            carryOut(pad.kind, pad.first, pad.second);
            pad.takeSign(';');
        }
        pad.empty();
        return now.noticeCount - before;
    }

    // ---- chimneys, the sky

    public int shadeOf(int chimney, int tick) throws IndexOutOfBoundsException, IllegalArgumentException {
        Chimney asked = chimneyOn(now, chimney);
        demand(isTick(tick));
        return asked.shadeAt(tick);
    }

    public int nextStoking(int chimney, int from) throws IndexOutOfBoundsException, IllegalArgumentException {
        Chimney asked = chimneyOn(now, chimney);
        demand(isTick(from));
        return asked.stokedFrom(from);
    }

    public int smoke(int chimney, int from, int to, boolean byTurns)
            throws IndexOutOfBoundsException, IllegalArgumentException {
        Chimney asked = chimneyOn(now, chimney);
        demand(isTick(from) && isTick(to) && from <= to);
        return byTurns ? asked.smokeByTurns(from, to) : asked.smokeByTicks(from, to);
    }

    public int greyOf(int hour) throws IllegalArgumentException {
        demand(isWithin(hour, 0, HOURS - 1));
        return now.greyInHour(hour);
    }

    public int time() {
        return TICKS_OF_DAY * now.day + now.tick;
    }

    // ---- observers, readings

    public int watchedBy(int observer) throws IndexOutOfBoundsException {
        return observerNow(observer).watched;
    }

    public int tirednessOf(int observer) throws IndexOutOfBoundsException {
        return observerNow(observer).tiredness;
    }

    public int wouldRead(int observer, int chimney) throws IndexOutOfBoundsException {
        Observer reader = observerNow(observer);
        int shade = chimneyOn(now, chimney).shadeAt(now.tick);
        return reader.readingFor(shade, now.greyAtTick(now.tick));
    }

    public int readingOf(int chimney, int tick) throws IndexOutOfBoundsException, IllegalArgumentException {
        Chimney asked = chimneyOn(now, chimney);
        demand(isTick(tick));
        return asked.readings.at(tick);
    }

    public int readingsFrom(int chimney, int limit) throws IndexOutOfBoundsException, IllegalArgumentException {
        Chimney asked = chimneyOn(now, chimney);
        demand(isWithin(limit, 0, MOST_SHADE));
        return asked.readings.countFrom(limit);
    }

    public int longestRow(int chimney, int limit, boolean byRows)
            throws IndexOutOfBoundsException, IllegalArgumentException {
        Chimney asked = chimneyOn(now, chimney);
        demand(isWithin(limit, 0, MOST_SHADE));
        return byRows ? asked.readings.longestByRows(limit) : asked.readings.longestByTicks(limit);
    }

    public int errorsOf(int observer) throws IndexOutOfBoundsException {
        return observerNow(observer).errors;
    }

    public int bestObserver() {
        return now.leastErring();
    }

    // ---- notices, fines

    public int notices() {
        return now.noticeCount;
    }

    public int chimneyOf(int notice) throws IndexOutOfBoundsException {
        return noticeNow(notice).chimney;
    }

    public int fineOf(int notice) throws IndexOutOfBoundsException {
        return noticeNow(notice).fine;
    }

    public boolean stands(int notice) throws IndexOutOfBoundsException {
        return noticeNow(notice).standing;
    }

    public int wouldAppeal(int notice) throws IndexOutOfBoundsException {
        return noticeNow(notice).outcome();
    }

    public int finesOf(int chimney, boolean byAccounts) throws IndexOutOfBoundsException {
        Chimney asked = chimneyOn(now, chimney);
        return byAccounts ? asked.finesByAccounts() : now.finesByNotices(chimney);
    }

    public int worstChimney() {
        return now.mostFined();
    }

    // ---- what is to come

    public int toWatch(int ticks, boolean byPicking) throws IllegalArgumentException {
        demand(isWithin(ticks, 1, TICKS_OF_DAY));
        int to = Math.min(TICKS_OF_DAY - 1, now.tick + ticks - 1);
        for (int chimney = 0; chimney < CHIMNEYS; chimney++) {
            smokes[chimney] = now.chimneys[chimney].smokeByTicks(now.tick, to);
        }
        return byPicking ? smokiestByPicking() : smokiestBySets();
    }

    public int noticesIn(int ticks) throws IllegalArgumentException {
        demand(isWithin(ticks, 1, MOST_TICKS));
        sketch.copyFrom(now);
        return sketch.passTicks(ticks);
    }

    public int ticksToNotice(int chimney) throws IndexOutOfBoundsException {
        Chimney tried = chimneyOn(sketch, chimney);
        sketch.copyFrom(now);
        int finesBefore = tried.finesGiven;
        for (int ticks = 1; ticks <= MOST_TICKS; ticks++) {
            sketch.passTick();
            if (tried.finesGiven > finesBefore) {
                return ticks;
            }
        }
        return NONE;
    }

    public int mildLimit(int ticks) throws IllegalArgumentException {
        demand(isWithin(ticks, 1, MOST_TICKS));
        for (int limit = 1; limit <= MOST_SHADE; limit++) {
            sketch.copyFrom(now);
            sketch.limit = limit;
            if (!sketch.getsNoticeIn(ticks)) {
                return limit;
            }
        }
        return NONE;
    }

    // ---- texts

    public int put(long characters) throws IllegalArgumentException, IllegalStateException {
        int count = Pad.countOf(characters);
        demand(count > 0);
        if (count > pad.room()) {
            throw new IllegalStateException("the pad would be longer than 60");
        }
        pad.append(characters, count);
        return pad.length;
    }

    public int wipe() {
        int before = pad.length;
        pad.empty();
        return before;
    }

    public int padLength() {
        return pad.length;
    }

    public int fault() {
        return pad.findFault();
    }

    // ---- undo, saving

    public int undo() throws IllegalStateException {
        if (history.count == 0) {
            throw new IllegalStateException("there is no change to undo");
        }
        history.giveBack(now);
        return history.count;
    }

    public int undoable() {
        return history.count;
    }

    public int save(int slot) throws IndexOutOfBoundsException {
        Slot chosen = slotNumbered(slot);
        chosen.kept.copyFrom(now);
        chosen.filled = true;
        return now.standingCount();
    }

    public int restore(int slot) throws IndexOutOfBoundsException, IllegalStateException {
        Slot chosen = slotNumbered(slot);
        if (!chosen.filled) {
            throw new IllegalStateException("nothing was saved in this slot");
        }
        history.record(now);
        now.copyFrom(chosen.kept);
        return now.standingCount();
    }

    // ---- what the calls share

    private static boolean isWithin(int value, int least, int most) {
        return value >= least && value <= most;
    }

    private static boolean isTick(int tick) {
        return isWithin(tick, 0, TICKS_OF_DAY - 1);
    }

    private static int hold(int shade) {
        if (shade < 0) {
            return 0;
        }
        return shade > MOST_SHADE ? MOST_SHADE : shade;
    }

    private static void demand(boolean fits) throws IllegalArgumentException {
        if (!fits) {
            throw new IllegalArgumentException("an argument, or the pad, is not as it has to be");
        }
    }

    private static Chimney chimneyOn(Ridge ridge, int chimney) throws IndexOutOfBoundsException {
        if (!isWithin(chimney, 0, CHIMNEYS - 1)) {
            throw new IndexOutOfBoundsException("there is no such chimney");
        }
        return ridge.chimneys[chimney];
    }

    private Observer observerNow(int observer) throws IndexOutOfBoundsException {
        if (!isWithin(observer, 0, OBSERVERS - 1)) {
            throw new IndexOutOfBoundsException("there is no such observer");
        }
        return now.observers[observer];
    }

    private Notice noticeNow(int notice) throws IndexOutOfBoundsException {
        if (!now.hasNotice(notice)) {
            throw new IndexOutOfBoundsException("there is no such notice");
        }
        return now.notes[notice];
    }

    private Slot slotNumbered(int slot) throws IndexOutOfBoundsException {
        if (!isWithin(slot, 0, SLOTS - 1)) {
            throw new IndexOutOfBoundsException("there is no such slot");
        }
        return slots[slot];
    }

    /** Only an appeal can be impossible: the numbers of all other parts always fit what there is. */
    private void carryOut(char kind, int first, int second) {
        switch (kind) {
            case 'o': observerNow(first).watched = second; break;
            case 'r': observerNow(first).watched = NONE; break;
            case 'f': chimneyOn(now, first).fire = second; break;
            case 'd': chimneyOn(now, first).damp = second; break;
            case 'g': now.changeGrey(first, second); break;
            case 'a': appealIfPossible(first); break;
            case '.': now.passTicks(first); break;
            default: break;
        }
    }

    private void appealIfPossible(int notice) {
        if (now.hasNotice(notice) && !now.notes[notice].appealed) {
            now.decide(now.notes[notice]);
        }
    }

    private int smokiestBySets() {
        int best = NONE;
        int most = NONE;
        for (int set = 0; set < 1 << CHIMNEYS; set++) {
            if (Integer.bitCount(set) == WATCHED_CHIMNEYS) {
                int together = smokeOfSet(set);
                if (together > most) {
                    most = together;
                    best = set;
                }
            }
        }
        return best;
    }

    private int smokeOfSet(int set) {
        int together = 0;
        for (int chimney = 0; chimney < CHIMNEYS; chimney++) {
            if ((set >> chimney & 1) == 1) {
                together += smokes[chimney];
            }
        }
        return together;
    }

    private int smokiestByPicking() {
        int set = 0;
        for (int pick = 0; pick < WATCHED_CHIMNEYS; pick++) {
            set |= 1 << smokiestOutside(set);
        }
        return set;
    }

    private int smokiestOutside(int set) {
        int best = 0;
        int most = NONE;
        for (int chimney = 0; chimney < CHIMNEYS; chimney++) {
            if ((set >> chimney & 1) == 0 && smokes[chimney] > most) {
                most = smokes[chimney];
                best = chimney;
            }
        }
        return best;
    }

    /** A number for each tick of a day, NONE where there is none. */
    private static final class DayRow {
        private final int[] values = new int[TICKS_OF_DAY];

        DayRow() {
            Arrays.fill(values, NONE);
        }

        void copyFrom(DayRow other) {
            System.arraycopy(other.values, 0, values, 0, TICKS_OF_DAY);
        }

        void clear() {
            Arrays.fill(values, NONE);
        }

        int at(int tick) {
            return tick >= 0 && tick < TICKS_OF_DAY ? values[tick] : NONE;
        }

        void note(int tick, int value) {
            if (tick >= 0 && tick < TICKS_OF_DAY) {
                values[tick] = value;
            }
        }

        int countFrom(int limit) {
            int count = 0;
            for (int value : values) {
                if (value >= limit) {
                    count++;
                }
            }
            return count;
        }

        int longestByTicks(int limit) {
            int longest = 0;
            int row = 0;
            for (int value : values) {
                row = value >= limit ? row + 1 : 0;
                longest = Math.max(longest, row);
            }
            return longest;
        }

        int longestByRows(int limit) {
            int longest = 0;
            for (int from = 0; from < TICKS_OF_DAY; from++) {
                for (int to = from; to < TICKS_OF_DAY && values[to] >= limit; to++) {
                    longest = Math.max(longest, to - from + 1);
                }
            }
            return longest;
        }

        /** Counts no further than most, as nobody asks how much longer the row is. */
        int rowUpTo(int tick, int limit, int most) {
            int row = 0;
            while (row < most && at(tick - row) >= limit) {
                row++;
            }
            return row;
        }
    }

    private static final class Chimney {
        int fire = 3;
        int damp = 0;
        int turn = 4;
        int begin;
        int finesGiven = 0;
        int finesBack = 0;
        final DayRow readings = new DayRow();
        /** The shades when they were read: setting the chimney anew must not change what an appeal finds. */
        final DayRow shadesThen = new DayRow();

        Chimney(int begin) {
            this.begin = begin;
        }

        void copyFrom(Chimney other) {
            fire = other.fire;
            damp = other.damp;
            turn = other.turn;
            begin = other.begin;
            finesGiven = other.finesGiven;
            finesBack = other.finesBack;
            readings.copyFrom(other.readings);
            shadesThen.copyFrom(other.shadesThen);
        }

        int shadeAt(int tick) {
            if (tick < begin) {
                return 0;
            }
            int ago = leftOf(tick - begin);
            return hold((fire + 1) / 2 + damp - ago);
        }

        int stokedFrom(int from) {
            if (from <= begin) {
                return begin;
            }
            int ago = leftOf(from - begin);
            int tick = ago == 0 ? from : from - ago + turn;
            return isTick(tick) ? tick : NONE;
        }

        int smokeByTicks(int from, int to) {
            int together = 0;
            for (int tick = from; tick <= to; tick++) {
                together += shadeAt(tick);
            }
            return together;
        }

        /** A whole turn smokes the same wherever it starts, once the chimney has been stoked. */
        int smokeByTurns(int from, int to) {
            int start = Math.max(from, begin);
            if (start > to) {
                return 0;
            }
            int ticks = to - start + 1;
            int ofOneTurn = smokeByTicks(begin, begin + turn - 1);
            return turnsIn(ticks) * ofOneTurn + smokeByTicks(to - leftOf(ticks) + 1, to);
        }

        void noteReading(int tick, int reading, int shade) {
            readings.note(tick, Math.max(reading, readings.at(tick)));
            shadesThen.note(tick, shade);
        }

        int finesByAccounts() {
            return finesGiven - finesBack;
        }

        private int turnsIn(int ticks) {
            return turn > 0 ? ticks / turn : 0;
        }

        private int leftOf(int ticks) {
            return turn > 0 ? ticks % turn : 0;
        }
    }

    private static final class Observer {
        int watched = NONE;
        int bias = 0;
        int tiredness = 0;
        int errors = 0;
        int readCount = 0;

        void copyFrom(Observer other) {
            watched = other.watched;
            bias = other.bias;
            tiredness = other.tiredness;
            errors = other.errors;
            readCount = other.readCount;
        }

        int readingFor(int shade, int grey) {
            if (grey >= GREY_SKY && shade <= HIDDEN_SHADE) {
                return 0;
            }
            int slip = tiredness >= TIRED ? 1 : 0;
            return hold(shade + bias - slip);
        }

        void countReading(int reading, int shade) {
            errors += Math.abs(reading - shade);
            readCount++;
        }

        void tire() {
            tiredness = watched == NONE ? 0 : tiredness + 1;
        }

        /** Multiplied crosswise, as a division would round. */
        boolean errsLessThan(Observer other) {
            return (long) errors * other.readCount < (long) other.errors * readCount;
        }
    }

    /** What an appeal would find is kept from the first, as all ticks of a notice have passed when it comes. */
    private static final class Notice {
        int chimney = NONE;
        int fine = 0;
        boolean wasGrey = false;
        boolean wasLess = false;
        boolean appealed = false;
        boolean standing = false;

        void copyFrom(Notice other) {
            chimney = other.chimney;
            fine = other.fine;
            wasGrey = other.wasGrey;
            wasLess = other.wasLess;
            appealed = other.appealed;
            standing = other.standing;
        }

        int outcome() {
            if (appealed) {
                return APPEAL_MADE;
            }
            if (wasGrey) {
                return UPHELD_AS_GREY;
            }
            return wasLess ? UPHELD_AS_LESS : NOT_UPHELD;
        }
    }

    /** All that undo gives back and a slot keeps. */
    private static final class Ridge {
        final Chimney[] chimneys = new Chimney[CHIMNEYS];
        final Observer[] observers = new Observer[OBSERVERS];
        final Notice[] notes = new Notice[MOST_NOTICES];
        private final int[] greys = new int[HOURS];
        /** The sky when each tick passed: an hour may become grey, or clear, behind it. */
        private final DayRow greysThen = new DayRow();
        int noticeCount = 0;
        int limit = 3;
        int patience = 3;
        int day = 0;
        int tick = 0;

        Ridge() {
            for (int chimney = 0; chimney < CHIMNEYS; chimney++) {
                chimneys[chimney] = new Chimney(chimney % 4);
            }
            for (int observer = 0; observer < OBSERVERS; observer++) {
                observers[observer] = new Observer();
            }
            for (int notice = 0; notice < MOST_NOTICES; notice++) {
                notes[notice] = new Notice();
            }
        }

        void copyFrom(Ridge other) {
            for (int chimney = 0; chimney < CHIMNEYS; chimney++) {
                chimneys[chimney].copyFrom(other.chimneys[chimney]);
            }
            for (int observer = 0; observer < OBSERVERS; observer++) {
                observers[observer].copyFrom(other.observers[observer]);
            }
            for (int notice = 0; notice < MOST_NOTICES; notice++) {
                notes[notice].copyFrom(other.notes[notice]);
            }
            System.arraycopy(other.greys, 0, greys, 0, HOURS);
            greysThen.copyFrom(other.greysThen);
            noticeCount = other.noticeCount;
            limit = other.limit;
            patience = other.patience;
            day = other.day;
            tick = other.tick;
        }

        int greyInHour(int hour) {
            return hour >= 0 && hour < HOURS ? greys[hour] : 0;
        }

        int greyAtTick(int tick) {
            return greyInHour(tick / TICKS_OF_HOUR);
        }

        void changeGrey(int hour, int grey) {
            if (hour >= 0 && hour < HOURS) {
                greys[hour] = grey;
            }
        }

        /** Returns how many notices come. */
        int passTicks(int ticks) {
            int before = noticeCount;
            for (int passed = 0; passed < ticks; passed++) {
                passTick();
            }
            return noticeCount - before;
        }

        boolean getsNoticeIn(int ticks) {
            int before = noticeCount;
            for (int passed = 0; passed < ticks && noticeCount == before; passed++) {
                passTick();
            }
            return noticeCount > before;
        }

        void passTick() {
            takeReadings();
            for (Observer observer : observers) {
                observer.tire();
            }
            giveNotices();
            goOn();
        }

        private void takeReadings() {
            int grey = greyAtTick(tick);
            greysThen.note(tick, grey);
            for (Observer observer : observers) {
                if (isWithin(observer.watched, 0, CHIMNEYS - 1)) {
                    Chimney chimney = chimneys[observer.watched];
                    int shade = chimney.shadeAt(tick);
                    int reading = observer.readingFor(shade, grey);
                    chimney.noteReading(tick, reading, shade);
                    observer.countReading(reading, shade);
                }
            }
        }

        private void giveNotices() {
            for (int chimney = 0; chimney < CHIMNEYS; chimney++) {
                // One tick more than the patience is counted, to tell a longer row from one that is just as long.
                int row = chimneys[chimney].readings.rowUpTo(tick, limit, patience + 1);
                if (row == patience && isWithin(noticeCount, 0, MOST_NOTICES - 1)) {
                    fill(notes[noticeCount], chimney, chimneys[chimney]);
                    noticeCount++;
                }
            }
        }

        private void fill(Notice notice, int number, Chimney chimney) {
            notice.chimney = number;
            notice.fine = FINE_STEP * (standingOf(number) + 1);
            notice.wasGrey = false;
            notice.wasLess = false;
            for (int ago = 0; ago < patience; ago++) {
                notice.wasGrey |= greysThen.at(tick - ago) >= GREY_SKY;
                notice.wasLess |= chimney.shadesThen.at(tick - ago) < limit;
            }
            notice.appealed = false;
            notice.standing = true;
            chimney.finesGiven += notice.fine;
        }

        private void goOn() {
            tick++;
            if (tick == TICKS_OF_DAY) {
                tick = 0;
                day++;
                for (Chimney chimney : chimneys) {
                    chimney.readings.clear();
                }
            }
        }

        boolean hasNotice(int notice) {
            return notice >= 0 && notice < noticeCount && notice < MOST_NOTICES;
        }

        void decide(Notice notice) {
            notice.appealed = true;
            if (notice.wasGrey || notice.wasLess) {
                notice.standing = false;
                if (isWithin(notice.chimney, 0, CHIMNEYS - 1)) {
                    chimneys[notice.chimney].finesBack += notice.fine;
                }
            }
        }

        int standingCount() {
            int count = 0;
            for (int notice = 0; notice < MOST_NOTICES && notice < noticeCount; notice++) {
                if (notes[notice].standing) {
                    count++;
                }
            }
            return count;
        }

        private int standingOf(int chimney) {
            int count = 0;
            for (int notice = 0; notice < MOST_NOTICES && notice < noticeCount; notice++) {
                if (notes[notice].standing && notes[notice].chimney == chimney) {
                    count++;
                }
            }
            return count;
        }

        int finesByNotices(int chimney) {
            int together = 0;
            for (int notice = 0; notice < MOST_NOTICES && notice < noticeCount; notice++) {
                if (notes[notice].standing && notes[notice].chimney == chimney) {
                    together += notes[notice].fine;
                }
            }
            return together;
        }

        int mostFined() {
            int worst = NONE;
            int most = 0;
            for (int chimney = 0; chimney < CHIMNEYS; chimney++) {
                int fines = finesByNotices(chimney);
                if (fines > most) {
                    most = fines;
                    worst = chimney;
                }
            }
            return worst;
        }

        int leastErring() {
            int best = NONE;
            for (int observer = 0; observer < OBSERVERS; observer++) {
                boolean better = best == NONE || observers[observer].errsLessThan(observers[best]);
                if (observers[observer].readCount > 0 && better) {
                    best = observer;
                }
            }
            return best;
        }
    }

    private static final class Slot {
        final Ridge kept = new Ridge();
        boolean filled = false;
    }

    /** The states before the latest changes, the oldest first. */
    private static final class History {
        private final Ridge[] states = new Ridge[HISTORY_SIZE];
        int count = 0;

        History() {
            for (int state = 0; state < HISTORY_SIZE; state++) {
                states[state] = new Ridge();
            }
        }

        void record(Ridge ridge) {
            if (count >= HISTORY_SIZE) {
                dropOldest();
            }
            if (isWithin(count, 0, HISTORY_SIZE - 1)) {
                states[count].copyFrom(ridge);
                count++;
            }
        }

        void giveBack(Ridge ridge) {
            if (isWithin(count, 1, HISTORY_SIZE)) {
                count--;
                ridge.copyFrom(states[count]);
            }
        }

        /** The oldest state goes to the end, to be written anew there. */
        private void dropOldest() {
            Ridge oldest = states[0];
            for (int state = 1; state < HISTORY_SIZE; state++) {
                states[state - 1] = states[state];
            }
            states[HISTORY_SIZE - 1] = oldest;
            count = HISTORY_SIZE - 1;
        }
    }

    /** The text, and the place at which it is read; where a part cannot go on, that place is the fault. */
    private static final class Pad {
        private final char[] signs = new char[PAD_SIZE];
        private int place = 0;
        int length = 0;
        char kind = 0;
        int first = NONE;
        int second = NONE;

        /** How many characters a number has, NONE if it is not one of characters. */
        static int countOf(long characters) {
            long rest = characters;
            int count = 0;
            while (count < CHARACTERS_OF_PUT && (rest & 255) != 0) {
                if (!isWithin((int) (rest & 255), 33, 126)) {
                    return NONE;
                }
                rest >>>= 8;
                count++;
            }
            return rest == 0 ? count : NONE;
        }

        int room() {
            return PAD_SIZE - length;
        }

        void append(long characters, int count) {
            for (int behind = count - 1; behind >= 0; behind--) {
                if (isWithin(length, 0, PAD_SIZE - 1)) {
                    signs[length] = (char) (characters >>> 8 * behind & 255);
                    length++;
                }
            }
        }

        void empty() {
            length = 0;
        }

        void goToStart() {
            place = 0;
        }

        int findFault() {
            goToStart();
            for (int part = 0; part < PAD_SIZE; part++) {
                if (!takePart()) {
                    return place;
                }
                if (place == length) {
                    return NONE;
                }
                if (!takeSign(';')) {
                    return place;
                }
            }
            return place;
        }

        boolean takePart() {
            kind = sign();
            switch (kind) {
                case 'o': return takeSign(kind) && takeFirst(OBSERVERS - 1) && takeSecond(CHIMNEYS - 1);
                case 'r': return takeSign(kind) && takeFirst(OBSERVERS - 1);
                case 'f': return takeSign(kind) && takeFirst(CHIMNEYS - 1) && takeSecond(MOST_FIRE);
                case 'd': return takeSign(kind) && takeFirst(CHIMNEYS - 1) && takeSecond(MOST_DAMP);
                case 'g': return takeSign(kind) && takeNumber(HOURS - 1) && takeSign('=') && takeSecond(MOST_GREY);
                case 'a': return takeSign(kind) && takeNumber(MOST_NOTICES - 1);
                case '.': return takeSign(kind) && takeTicks();
                default: return false;
            }
        }

        boolean takeSign(char due) {
            if (place >= length || sign() != due) {
                return false;
            }
            place++;
            return true;
        }

        private char sign() {
            return place >= 0 && place < length && place < PAD_SIZE ? signs[place] : 0;
        }

        private int digit() {
            return sign() >= '0' && sign() <= '9' ? sign() - '0' : NONE;
        }

        private boolean takeFirst(int most) {
            first = digit();
            return takeDigit(first, most);
        }

        private boolean takeSecond(int most) {
            second = digit();
            return takeDigit(second, most);
        }

        private boolean takeDigit(int digit, int most) {
            if (!isWithin(digit, 0, most)) {
                return false;
            }
            place++;
            return true;
        }

        /** A digit that the number cannot take is left: no digit can stand behind a number, so it becomes the fault. */
        private boolean takeNumber(int most) {
            if (!takeFirst(9)) {
                return false;
            }
            int next = digit();
            if (first > 0 && next != NONE && 10 * first + next <= most) {
                first = 10 * first + next;
                place++;
            }
            return true;
        }

        private boolean takeTicks() {
            int tens = digit();
            first = 1;
            if (tens > 0) {
                first = 10 * tens;
                place++;
            }
            return true;
        }
    }
}
