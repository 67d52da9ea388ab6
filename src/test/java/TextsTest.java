import java.util.List;
import java.util.function.Supplier;

/** Promises 34 to 37: the pad and its fault. */
public final class TextsTest {
    private static final Check CHECK = new Check("TextsTest");
    private static final Class<?> OUT_OF_RANGE = IllegalArgumentException.class;
    private static final Class<?> NOT_NOW = IllegalStateException.class;
    private static final List<Supplier<ShadeCards>> SCENES = List.of(ShadeCards::new, Scenes::busy);

    /** Texts without a fault. */
    private static final String[] SOUND = {
        "o00", "o27", "r0", "r2", "f00", "f79", "d00", "d72", "g0=0", "g9=4", "g10=1", "g19=2", "g20=3", "g23=4",
        "a0", "a9", "a10", "a19", ".", ".1", ".9", ".;.", ".;.9;.", "o00;r0;f12;d71;g3=2;a5;.4", "a2;a1", "a1;a2",
    };

    /** Texts with a fault, and it. */
    private static final Object[][] FAULTY = {
        {"", 0}, {";", 0}, {"x", 0}, {"O00", 0}, {"0", 0}, {"=", 0}, {"~", 0}, {"!", 0},
        {"o", 1}, {"o0", 2}, {"o3", 1}, {"o9", 1}, {"o;", 1}, {"oo", 1}, {"o08", 2}, {"o09", 2}, {"o0;", 2},
        {"o000", 3}, {"o00.", 3}, {"o00;", 4}, {"o00;;", 4}, {"o00;o", 5},
        {"r", 1}, {"r3", 1}, {"r-", 1}, {"r00", 2}, {"r0;", 3}, {"r0r0", 2},
        {"f", 1}, {"f8", 1}, {"f9", 1}, {"f0", 2}, {"f0a", 2}, {"f0;", 2}, {"f010", 3},
        {"d", 1}, {"d8", 1}, {"d0", 2}, {"d03", 2}, {"d09", 2}, {"d020", 3},
        {"g", 1}, {"g=", 1}, {"g0", 2}, {"g00", 2}, {"g01", 2}, {"g0;", 2}, {"g0=", 3}, {"g0=5", 3}, {"g0=9", 3},
        {"g0=;", 3}, {"g0==", 3}, {"g0=40", 4}, {"g2", 2}, {"g24", 2}, {"g29", 2}, {"g3", 2}, {"g30", 2},
        {"g9", 2}, {"g99", 2}, {"g23", 3}, {"g230", 3}, {"g100", 3}, {"g1:", 2}, {"g23=", 4}, {"g23=5", 4},
        {"g1/", 2}, {"g1=/", 3}, {"g1=:", 3},
        {"a", 1}, {"a;", 1}, {"a-", 1}, {"a00", 2}, {"a01", 2}, {"a20", 2}, {"a29", 2}, {"a30", 2}, {"a99", 2},
        {"a190", 3}, {"a100", 3}, {"a1=", 2}, {"a19;", 4},
        {".0", 1}, {".10", 2}, {".99", 2}, {"..", 1}, {".:", 1}, {".;", 2}, {".9;", 3}, {".9;x", 3}, {".9;;", 3},
        {".9.", 2}, {"o00;f09;d02;g1=5", 15},
    };

    public static void main(String[] args) {
        put();
        putRefused();
        wipe();
        padLength();
        fault();
        longFault();
        noChanges();
        CHECK.end();
    }

    /** Promise 34. */
    private static void put() {
        ShadeCards cards = new ShadeCards();
        CHECK.same("one character", 1, cards.put('o'));
        CHECK.same("two characters", 3, cards.put(Check.packed("00")));
        CHECK.same("in their order", -1, cards.fault());
        CHECK.same("eight characters", 11, cards.put(Check.packed(";r0;a1;.")));
        CHECK.same("in their order too", -1, cards.fault());
        CHECK.same("least code", 1, new ShadeCards().put(33));
        CHECK.same("greatest code", 1, new ShadeCards().put(126));
        CHECK.same("eight of the greatest", 8, new ShadeCards().put(0x7e7e7e7e7e7e7e7eL));
        CHECK.same("seven", 7, new ShadeCards().put(0x0021212121212121L));
        ShadeCards full = new ShadeCards();
        for (int calls = 1; calls <= 7; calls++) {
            CHECK.same("length", 8 * calls, full.put(Check.packed(".;.;.;.;")));
        }
        CHECK.same("just 60", 60, full.put(Check.packed(".;.9")));
        CHECK.same("60 can be read", -1, full.fault());
    }

    private static void putRefused() {
        long[] wrong = {0, 1, 32, 127, 128, 255, -1, Long.MIN_VALUE, Long.MAX_VALUE, 0x2100, 0x210021, 0x6f0000,
            0x6f00006fL, 0x206f, 0x6f20, 0x7f6f, 0x6f7f, 0x806f, 0xff6f, 0x6fff, 0x2100000000000000L,
            0x2100000000000021L, 0x8021212121212121L, 0x2021212121212121L, 0x0100000000000021L, 0x0121L, 256,
            0x100000021L, 0x1f21212121212121L, 0x2121212121212120L};
        Supplier<ShadeCards> full = () -> Check.write(Scenes.busy(), "x".repeat(52));
        for (long characters : wrong) {
            for (Supplier<ShadeCards> scene : SCENES) {
                CHECK.refuses("put of " + characters, OUT_OF_RANGE, scene, x -> x.put(characters));
            }
            CHECK.refuses("put of " + characters + " on a full pad", OUT_OF_RANGE, full, x -> x.put(characters));
        }
        CHECK.refuses("put on a full pad", NOT_NOW, full, x -> x.put('o'));
        Supplier<ShadeCards> nearly = () -> Check.write(new ShadeCards(), "x".repeat(58));
        CHECK.refuses("put of three where two fit", NOT_NOW, nearly, x -> x.put(Check.packed("r0;")));
        CHECK.refuses("put of eight where two fit", NOT_NOW, nearly, x -> x.put(0x2121212121212121L));
        CHECK.same("put of two where two fit", 60, nearly.get().put(Check.packed("r0")));
    }

    /** Promise 35. */
    private static void wipe() {
        ShadeCards cards = new ShadeCards();
        CHECK.same("an empty pad", 0, cards.wipe());
        Check.write(cards, "o00;r0;.9");
        CHECK.same("its length", 9, cards.wipe());
        CHECK.same("empty", 0, cards.padLength());
        CHECK.same("its fault", 0, cards.fault());
        Check.write(cards, "a1");
        CHECK.same("nothing of the text before", -1, cards.fault());
        CHECK.same("its length then", 2, cards.wipe());
    }

    /** Promise 36. */
    private static void padLength() {
        ShadeCards cards = new ShadeCards();
        for (int length = 1; length <= 60; length++) {
            cards.put('x');
            CHECK.same("length", length, cards.padLength());
        }
        cards.pass(1);
        CHECK.same("behind a change", 60, cards.padLength());
    }

    /** Promise 37. */
    private static void fault() {
        for (String text : SOUND) {
            CHECK.same("fault of " + text, -1, Check.write(new ShadeCards(), text).fault());
            CHECK.same("fault of .;" + text, -1, Check.write(new ShadeCards(), ".;" + text).fault());
        }
        for (Object[] row : FAULTY) {
            String text = (String) row[0];
            int due = (int) row[1];
            CHECK.same("fault of " + text, due, Check.write(new ShadeCards(), text).fault());
            CHECK.same("fault of a19;" + text, due + 4, Check.write(new ShadeCards(), "a19;" + text).fault());
        }
        for (char sign = 33; sign <= 126; sign++) {
            boolean starts = "orfdga".indexOf(sign) >= 0;
            int due = sign == '.' ? -1 : starts ? 1 : 0;
            CHECK.same("fault of " + sign, due, Check.write(new ShadeCards(), "" + sign).fault());
        }
        ShadeCards asked = Check.write(new ShadeCards(), "o00;.9;x");
        CHECK.same("asked once", 7, asked.fault());
        CHECK.same("asked twice", 7, asked.fault());
        CHECK.same("the pad stays", 8, asked.padLength());
        CHECK.same("nothing was done", 0, asked.time());
    }

    private static void longFault() {
        CHECK.same("60 and too early", 60, Check.write(new ShadeCards(), ".;".repeat(30)).fault());
        CHECK.same("60 and a sign too many", 59, Check.write(new ShadeCards(), ".;".repeat(29) + "..").fault());
        CHECK.same("60 and a digit missing", 60, Check.write(new ShadeCards(), ".;".repeat(29) + "o0").fault());
        CHECK.same("60 and sound", -1, Check.write(new ShadeCards(), ".;".repeat(29) + "a1").fault());
    }

    /** Neither put nor wipe is a change. */
    private static void noChanges() {
        ShadeCards cards = Scenes.noticed();
        Check.write(cards, ".9;a0");
        CHECK.same("changes", 3, cards.undoable());
        cards.wipe();
        CHECK.same("changes behind wipe", 3, cards.undoable());
        Check.write(cards, ".");
        cards.undo();
        CHECK.same("undo leaves the pad", 1, cards.padLength());
        ShadeCards asked = Scenes.busy();
        asked.fault();
        asked.padLength();
        CHECK.same("what stands behind questions", Sight.of(Scenes.busy()), Sight.of(asked));
    }
}
