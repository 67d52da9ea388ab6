import java.util.ArrayList;
import java.util.List;
import java.util.function.Supplier;

/** Long runs of calls, made up by a fixed row of numbers, on an object and on the plain ridge: all answers are even. */
public final class RunsTest {
    private static final int RUNS = 600;
    private static final int CALLS = 500;
    private static final Check CHECK = new Check("RunsTest");
    private static final String[] PARTS = {"o00", "o15", "o23", "o01", "r0", "r1", "f09", "f59", "f33", "f10", "d02",
        "d52", "d00", "g0=3", "g1=4", "g23=3", "g12=0", "g5=2", "a0", "a1", "a2", "a7", "a19", ".", ".1", ".3", ".9",
        "a20", "g24", "o3", "x", "", ".0", "g0=5", "f8", "d03"};

    private long row;

    private RunsTest(long start) {
        row = start;
    }

    public static void main(String[] args) {
        for (int run = 0; run < RUNS; run++) {
            new RunsTest(run).run(run);
        }
        CHECK.end();
    }

    private void run(int run) {
        ShadeCards cards = new ShadeCards();
        PlainRidge plain = new PlainRidge();
        List<String> calls = new ArrayList<>();
        // Some runs have short steps, so that more of them stays within one day and one row.
        int stride = new int[] {3, 12, 60, 200}[run % 4];
        for (int made = 0; made < CALLS; made++) {
            int before = calls.size();
            Object[] answers = next(calls, cards, plain, stride);
            if (!answers[0].equals(answers[1])) {
                CHECK.same("run " + run + ", call " + made + ", "
                        + calls.subList(Math.max(0, before - 15), calls.size()) + ": the last", answers[1], answers[0]);
                return;
            }
        }
        CHECK.same("run " + run, true, true);
    }

    private int upTo(int most) {
        row = row * 6364136223846793005L + 1442695040888963407L;
        return (int) ((row >>> 33) % (most + 1));
    }

    /** Mostly from least to most, now and then beside it. */
    private int about(int least, int most) {
        int choice = upTo(60);
        if (choice == 0) {
            return least - 1;
        }
        return choice == 1 ? most + 1 : least + upTo(most - least);
    }

    private Object[] next(List<String> calls, ShadeCards x, PlainRidge y, int stride) {
        int kind = upTo(99);
        if (kind < 45) {
            return change(kind, calls, x, y, stride);
        }
        if (kind < 60) {
            return text(kind, calls, x, y);
        }
        return kind < 80 ? ask(upTo(13), calls, x, y) : askMore(upTo(13), calls, x, y);
    }

    private static Object[] both(List<String> calls, String call, Supplier<Object> x, Supplier<Object> y) {
        calls.add(call);
        return new Object[] {Sight.answer(x), Sight.answer(y)};
    }

    private Object[] change(int kind, List<String> calls, ShadeCards x, PlainRidge y, int stride) {
        int a = about(0, 7);
        int b = about(0, 9);
        int c = about(0, 2);
        int d = about(2, 12);
        int e = about(0, 11);
        int hour = upTo(1) == 0 ? y.time() % 96 / 4 : about(0, 23);
        int grey = about(0, 4);
        int bias = about(-1, 1);
        int ticks = about(1, stride);
        int notice = about(0, Math.max(0, y.notices() - 1));
        int limit = about(1, 5);
        int patience = upTo(2) > 0 ? about(1, 3) : about(1, 8);
        int rest = upTo(3) == 0 ? -1 : about(-1, 7);
        if (kind < 6) {
            return both(calls, "setChimney(" + a + "," + b + "," + c + "," + d + "," + e + ")",
                    () -> x.setChimney(a, b, c, d, e), () -> y.setChimney(a, b, c, d, e));
        }
        if (kind < 9) {
            return both(calls, "setGrey(" + hour + "," + grey + ")", () -> x.setGrey(hour, grey),
                    () -> y.setGrey(hour, grey));
        }
        if (kind < 16) {
            return both(calls, "watch(" + c + "," + rest + ")", () -> x.watch(c, rest), () -> y.watch(c, rest));
        }
        if (kind < 19) {
            return both(calls, "setBias(" + c + "," + bias + ")", () -> x.setBias(c, bias), () -> y.setBias(c, bias));
        }
        if (kind < 22) {
            return both(calls, "setLimit(" + limit + "," + patience + ")", () -> x.setLimit(limit, patience),
                    () -> y.setLimit(limit, patience));
        }
        if (kind < 31) {
            return both(calls, "pass(" + ticks + ")", () -> x.pass(ticks), () -> y.pass(ticks));
        }
        if (kind < 34) {
            return both(calls, "appeal(" + notice + ")", () -> x.appeal(notice), () -> y.appeal(notice));
        }
        if (kind < 41) {
            return both(calls, "undo()", x::undo, y::undo);
        }
        int slot = about(0, 1);
        return kind < 43 ? both(calls, "save(" + slot + ")", () -> x.save(slot), () -> y.save(slot))
                : both(calls, "restore(" + slot + ")", () -> x.restore(slot), () -> y.restore(slot));
    }

    private Object[] text(int kind, List<String> calls, ShadeCards x, PlainRidge y) {
        if (kind < 51) {
            // Most parts are sound, so that some texts come to be read.
            String part = PARTS[upTo(9) == 0 ? upTo(PARTS.length - 1) : upTo(26)];
            boolean joined = y.padLength() > 0 && upTo(14) > 0;
            long packed = upTo(40) == 0 ? ((long) upTo(255) << 8 | upTo(255)) << 8 * upTo(6)
                    : Check.packed((joined ? ";" : "") + part);
            return both(calls, "put(" + packed + ")", () -> x.put(packed), () -> y.put(packed));
        }
        if (kind < 54) {
            return both(calls, "fault()", x::fault, y::fault);
        }
        if (kind < 58) {
            return both(calls, "read()", x::read, y::read);
        }
        if (kind < 59 || y.fault() == -1) {
            return both(calls, "padLength()", x::padLength, y::padLength);
        }
        return both(calls, "wipe()", x::wipe, y::wipe);
    }

    private Object[] ask(int kind, List<String> calls, ShadeCards x, PlainRidge y) {
        int a = about(0, 7);
        int tick = upTo(1) == 0 ? about(0, 95) : Math.floorMod(y.time() - 1 - upTo(3), 96);
        int o = about(0, 2);
        int to = Math.min(95, tick + upTo(60)) + (upTo(60) == 0 ? 1 : 0);
        int limit = about(0, 5);
        boolean way = upTo(1) == 0;
        switch (kind) {
            case 0: return both(calls, "shadeOf", () -> x.shadeOf(a, tick), () -> y.shadeOf(a, tick));
            case 1: return both(calls, "nextStoking", () -> x.nextStoking(a, tick), () -> y.nextStoking(a, tick));
            case 2: return both(calls, "smoke", () -> x.smoke(a, tick, to, way), () -> y.smoke(a, tick, to));
            case 3: return both(calls, "greyOf", () -> x.greyOf(tick / 4), () -> y.greyOf(tick / 4));
            case 4: return both(calls, "time", x::time, y::time);
            case 5: return both(calls, "watchedBy", () -> x.watchedBy(o), () -> y.watchedBy(o));
            case 6: return both(calls, "tirednessOf", () -> x.tirednessOf(o), () -> y.tirednessOf(o));
            case 7: return both(calls, "wouldRead", () -> x.wouldRead(o, a), () -> y.wouldRead(o, a));
            case 8: return both(calls, "readingOf", () -> x.readingOf(a, tick), () -> y.readingOf(a, tick));
            case 9: return both(calls, "readingsFrom", () -> x.readingsFrom(a, limit), () -> y.readingsFrom(a, limit));
            case 10:
            case 11: return both(calls, "longestRow", () -> x.longestRow(a, limit, way), () -> y.longestRow(a, limit));
            case 12: return both(calls, "errorsOf", () -> x.errorsOf(o), () -> y.errorsOf(o));
            default: return both(calls, "bestObserver", x::bestObserver, y::bestObserver);
        }
    }

    private Object[] askMore(int kind, List<String> calls, ShadeCards x, PlainRidge y) {
        int n = about(0, Math.max(0, y.notices() - 1));
        int a = about(0, 7);
        int ticks = upTo(1) == 0 ? about(1, 200) : about(1, 10);
        boolean way = upTo(1) == 0;
        switch (kind) {
            case 0: return both(calls, "notices", x::notices, y::notices);
            case 1: return both(calls, "chimneyOf", () -> x.chimneyOf(n), () -> y.chimneyOf(n));
            case 2: return both(calls, "fineOf", () -> x.fineOf(n), () -> y.fineOf(n));
            case 3: return both(calls, "stands", () -> x.stands(n), () -> y.stands(n));
            case 4:
            case 5: return both(calls, "wouldAppeal", () -> x.wouldAppeal(n), () -> y.wouldAppeal(n));
            case 6: return both(calls, "finesOf", () -> x.finesOf(a, way), () -> y.finesOf(a));
            case 7: return both(calls, "worstChimney", x::worstChimney, y::worstChimney);
            case 8:
            case 9: return both(calls, "toWatch", () -> x.toWatch(ticks, way), () -> y.toWatch(ticks));
            case 10: return both(calls, "noticesIn", () -> x.noticesIn(ticks), () -> y.noticesIn(ticks));
            case 11: return both(calls, "ticksToNotice", () -> x.ticksToNotice(a), () -> y.ticksToNotice(a));
            case 12: return both(calls, "mildLimit", () -> x.mildLimit(ticks), () -> y.mildLimit(ticks));
            default: return both(calls, "undoable", x::undoable, y::undoable);
        }
    }
}
