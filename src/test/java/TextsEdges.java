import java.util.function.Supplier;

/** The edges of the pad and of its texts: their terms, and promises 34 to 37. */
final class TextsEdges {
    private static final String DIGITS = "0123456789";
    private static final String STARTS = "orfdga.";
    private static final boolean WHOLE = true;
    private static final boolean TOO_EARLY = false;

    private TextsEdges() {
    }

    static void all(Edges e) {
        e.in("Texts");
        parts(e);
        meanings(e);
        faults(e);
        put(e);
        wipe(e);
        padLength(e);
        fault(e);
    }

    /** Behind a beginning just these characters can stand, and it is a whole text or not. */
    private static void next(Edges e, String beginning, String characters, boolean whole) {
        ShadeCards cards = Check.write(new ShadeCards(), beginning);
        e.same("fault of " + beginning, whole ? -1 : beginning.length(), cards.fault());
        for (char sign = 33; sign <= 126; sign++) {
            cards.wipe();
            int fault = Check.write(cards, beginning + sign).fault();
            boolean can = characters.indexOf(sign) >= 0;
            e.same(sign + " can stand behind " + beginning, can, fault != beginning.length());
            if (can) {
                e.same(sign + " behind " + beginning + " is no fault of an earlier one", true,
                        fault == -1 || fault == beginning.length() + 1);
            }
        }
    }

    private static void parts(Edges e) {
        e.holds("The pad is a text of at most 60 characters, works:", () -> theMostCharacters(e));
        e.holds("text = part { \";\" part };", () -> {
            next(e, "", STARTS, TOO_EARLY);
            next(e, "r0", ";", WHOLE);
            next(e, "r0;", STARTS, TOO_EARLY);
            next(e, "r0;r1", ";", WHOLE);
            next(e, "r0;r1;", STARTS, TOO_EARLY);
        });
        e.holds("part = \"o\" observer chimney |", () -> {
            next(e, "o", "012", TOO_EARLY);
            next(e, "o0", "01234567", TOO_EARLY);
            next(e, "o2", "01234567", TOO_EARLY);
            next(e, "o27", ";", WHOLE);
        });
        e.holds("\"r\" observer |", () -> {
            next(e, "r", "012", TOO_EARLY);
            next(e, "r2", ";", WHOLE);
        });
        e.holds("\"f\" chimney fire |", () -> {
            next(e, "f", "01234567", TOO_EARLY);
            next(e, "f7", DIGITS, TOO_EARLY);
            next(e, "f79", ";", WHOLE);
        });
        e.holds("\"d\" chimney damp |", () -> {
            next(e, "d", "01234567", TOO_EARLY);
            next(e, "d7", "012", TOO_EARLY);
            next(e, "d72", ";", WHOLE);
        });
        e.holds("\"g\" hour \"=\" grey |", () -> {
            next(e, "g", DIGITS, TOO_EARLY);
            next(e, "g23=", "01234", TOO_EARLY);
            next(e, "g23=4", ";", WHOLE);
            next(e, "g0=0", ";", WHOLE);
        });
        e.holds("\"a\" notice |", () -> next(e, "a", DIGITS, TOO_EARLY));
        e.holds("\".\" [ tens ]:", () -> {
            next(e, ".", "123456789;", WHOLE);
            next(e, ".9", ";", WHOLE);
        });
    }

    private static void theMostCharacters(Edges e) {
        ShadeCards cards = Check.write(new ShadeCards(), ".;".repeat(29) + ".");
        e.same("59", 59, cards.padLength());
        e.same("60", 60, cards.put('9'));
        e.same("60 can be a text", -1, cards.fault());
        e.refuses("61", Edges.NOT_NOW, () -> Check.write(new ShadeCards(), ".;".repeat(30)), x -> x.put('.'));
        cards.read();
        e.same("60 can be put again", 60, Check.write(cards, "x".repeat(60)).padLength());
    }

    private static void meanings(Edges e) {
        e.holds("an observer (a digit 0 to 2) watches a chimney (a digit 0 to 7),", () -> {
            ShadeCards cards = read("o00;o27");
            e.same("the first", 0, cards.watchedBy(0));
            e.same("neither", -1, cards.watchedBy(1));
            e.same("the last", 7, cards.watchedBy(2));
        });
        e.holds("or rests,", () -> {
            ShadeCards cards = read("o00;o11;o22;r0;r2;r2");
            e.same("the first", -1, cards.watchedBy(0));
            e.same("neither", 1, cards.watchedBy(1));
            e.same("the last, told twice", -1, cards.watchedBy(2));
            ShadeCards tired = Check.write(Scenes.watched(), ".1;.;.;r0;o00");
            tired.read();
            e.same("no rest without a tick", 12, tired.tirednessOf(0));
            Check.write(tired, "r0;.;o00").read();
            e.same("a tick of rest", 0, tired.tirednessOf(0));
        });
        e.holds("a fire (a digit)", () -> {
            ShadeCards cards = read("f00;f79");
            e.same("the least, of the first", 0, cards.shadeOf(0, 0));
            e.same("the most, of the last", 5, cards.shadeOf(7, 3));
            e.same("neither", 2, cards.shadeOf(1, 1));
            fireOrDampAlone(e);
        });
        e.holds("or a damp (a digit 0 to 2) is set,", () -> {
            ShadeCards cards = read("d02;d02;d00;d72");
            e.same("the least, of the first", 2, cards.shadeOf(0, 0));
            e.same("the most, of the last", 4, cards.shadeOf(7, 3));
            e.same("neither", 2, cards.shadeOf(1, 1));
        });
        e.holds("the grey (a digit 0 to 4) of an hour (0 to 23),", () -> greys(e));
        e.holds("an appeal is made against a notice (0 to 19),", () -> appeals(e));
        e.holds("and ticks that pass (1, or 10 times as many as a digit 1 to 9 tells);", () -> {
            e.same("1", 1, read(".").time());
            e.same("the fewest tens", 10, read(".1").time());
            e.same("the most tens", 90, read(".9").time());
            e.same("all of them", 111, read(".;.9;.2").time());
        });
        e.holds("numbers without leading zeros.", () -> {
            next(e, "g0", "=", TOO_EARLY);
            next(e, "a0", ";", WHOLE);
        });
        e.holds("A part that is not possible is passed over.", () -> passedOver(e));
    }

    private static void fireOrDampAlone(Edges e) {
        ShadeCards cards = new ShadeCards();
        cards.setChimney(7, 0, 1, 12, 11);
        Check.write(cards, "f76").read();
        e.same("a fire set: the damp stays", 4, cards.shadeOf(7, 11));
        Check.write(cards, "d70").read();
        e.same("a damp set: the fire stays", 3, cards.shadeOf(7, 11));
        e.same("the beginning stays", 11, cards.nextStoking(7, 0));
        e.same("the turn stays", 23, cards.nextStoking(7, 12));
    }

    private static ShadeCards read(String text) {
        ShadeCards cards = Check.write(new ShadeCards(), text);
        cards.read();
        return cards;
    }

    private static void greys(Edges e) {
        ShadeCards cards = read("g0=4;g9=1;g10=2;g19=3;g20=4;g23=3;g0=0");
        int[][] due = {{0, 0}, {1, 0}, {2, 0}, {9, 1}, {10, 2}, {19, 3}, {20, 4}, {22, 0}, {23, 3}};
        for (int[] row : due) {
            e.same("the hour " + row[0], row[1], cards.greyOf(row[0]));
        }
    }

    private static void appeals(Edges e) {
        ShadeCards cards = Check.write(Scenes.twenty(), "a0;a9;a10;a19");
        cards.read();
        for (int notice = 0; notice < 20; notice++) {
            boolean told = notice == 0 || notice == 9 || notice == 10 || notice == 19;
            e.same("made against " + notice, told ? 3 : 2, cards.wouldAppeal(notice));
        }
        ShadeCards grey = Check.write(Scenes.watched(), "g0=3;.1;a0");
        grey.read();
        e.same("upheld", false, grey.stands(0));
        e.same("given back", 0, grey.finesOf(0, true));
    }

    private static void passedOver(Edges e) {
        e.same("no notice there", 10, read("a0;a19;.1").time());
        ShadeCards beside = Check.write(Scenes.noticed(), "a1;.");
        beside.read();
        e.same("one notice, and an appeal against the next one", 2, beside.wouldAppeal(0));
        e.same("the part behind it", 4, beside.time());
        ShadeCards made = Check.write(Scenes.watched(), "g0=3;.1;a0;a0;f00;g0=0");
        made.read();
        e.same("made in the same text: given back once", 0, made.finesOf(0, true));
        e.same("the part behind it: no fire, the damp 2", 2, made.shadeOf(0, 0));
        ShadeCards ahead = Scenes.noticed();
        ahead.appeal(0);
        Check.write(ahead, "a0;.").read();
        e.same("made ahead of the text", 4, ahead.time());
        e.same("it stands on", true, ahead.stands(0));
        ShadeCards then = Check.write(Scenes.watched(), "a0;.1;a0");
        then.read();
        e.same("not possible yet, then possible", 3, then.wouldAppeal(0));
    }

    private static void fault(Edges e, String text, int due) {
        e.same("fault of " + text, due, Check.write(new ShadeCards(), text).fault());
    }

    private static void faults(Edges e) {
        e.holds("The fault is the index of the first character that cannot stand at its place when the text is read "
                + "from left to right", () -> {
            fault(e, "x", 0);
            fault(e, "o00;x", 4);
            fault(e, "o0x;y", 2);
            fault(e, "r0;r1;r2;r3", 10);
            fault(e, ".;".repeat(29) + "..", 59);
            fault(e, "x".repeat(60), 0);
            fault(e, "~!", 0);
        });
        e.holds("(also of a digit by which a number would be too great);", () -> {
            next(e, "g1", DIGITS + "=", TOO_EARLY);
            next(e, "g2", "0123=", TOO_EARLY);
            next(e, "g3", "=", TOO_EARLY);
            next(e, "g9", "=", TOO_EARLY);
            next(e, "g10", "=", TOO_EARLY);
            next(e, "g23", "=", TOO_EARLY);
            next(e, "a1", DIGITS + ";", WHOLE);
            next(e, "a2", ";", WHOLE);
            next(e, "a9", ";", WHOLE);
            next(e, "a10", ";", WHOLE);
            next(e, "a19", ";", WHOLE);
        });
        e.holds("if there is none and the text ends too early (also if it is empty), it is the length of the text.",
                () -> {
            fault(e, "", 0);
            fault(e, "o", 1);
            fault(e, "o0", 2);
            fault(e, "g", 1);
            fault(e, "g1", 2);
            fault(e, "g23=", 4);
            fault(e, "a", 1);
            fault(e, "r0;", 3);
            fault(e, ".;".repeat(30), 60);
            fault(e, ".;".repeat(29) + "g0", 60);
        });
    }

    private static void put(Edges e) {
        e.in("Promise 34: put");
        e.holds("Appends characters to the pad.", () -> appended(e));
        e.holds("They are given as a number: its lowest 8 bits are the last character, the next 8 bits the one before, "
                + "and so on;", () -> orderOfCharacters(e));
        e.holds("8 bits that are 0 mean that there are no more characters, and everything above them has to be 0, too.",
                () -> bitsAboveTheCharacters(e));
        e.holds("characters: 1 to 8 characters", () -> {
            e.same("one", 1, new ShadeCards().put('!'));
            e.same("seven", 7, new ShadeCards().put(Check.packed("~~~~~~~")));
            e.same("eight", 8, new ShadeCards().put(Check.packed("~~~~~~~~")));
            refused(e, "none", 0);
        });
        e.holds("Returns the length of the pad then.", () -> {
            e.same("of an empty pad", 2, new ShadeCards().put(Check.packed("r0")));
            e.same("of a pad of 59", 60, Check.write(new ShadeCards(), "x".repeat(59)).put('x'));
            e.same("of a pad of 52", 60, Check.write(new ShadeCards(), "x".repeat(52)).put(0x7878787878787878L));
        });
        e.holds("Throws IllegalArgumentException if there is no character, a code is not 33 to 126, or a bit above 8 "
                + "bits that are 0 is not 0", () -> codes(e));
        e.holds("Throws IllegalStateException if the pad would be longer than 60", () -> longerThanSixty(e));
    }

    /** Refused by its argument, also where there is no room: that goes first. */
    private static void refused(Edges e, String what, long characters) {
        e.refuses(what, Edges.OUT_OF_RANGE, x -> x.put(characters));
    }

    private static void appended(Edges e) {
        ShadeCards cards = Check.write(new ShadeCards(), "o0");
        cards.put(Check.packed("7;."));
        e.same("behind what was there", -1, cards.fault());
        cards.read();
        e.same("the first part", 7, cards.watchedBy(0));
        e.same("the second part", 1, cards.time());
        e.same("behind an emptied pad", 1, cards.put('.'));
        e.same("nothing of what was there", -1, cards.fault());
        cards.read();
        e.same("nothing of what was there is done", 2, cards.time());
        Check.write(cards, ".9").read();
        Check.write(cards, ".").read();
        e.same("a longer text was read ahead of it", 93, cards.time());
    }

    private static void orderOfCharacters(Edges e) {
        ShadeCards two = new ShadeCards();
        two.put('r' << 8 | '2');
        e.same("two characters", -1, two.fault());
        ShadeCards three = new ShadeCards();
        three.put('f' << 16 | '7' << 8 | '9');
        three.read();
        e.same("three characters", 5, three.shadeOf(7, 3));
        ShadeCards eight = new ShadeCards();
        eight.put(0x6732333d343b2e39L);
        e.same("eight characters: g23=4;.9", -1, eight.fault());
        eight.read();
        e.same("the first part of the eight", 4, eight.greyOf(23));
        e.same("the second part of the eight", 90, eight.time());
    }

    private static void bitsAboveTheCharacters(Edges e) {
        for (int count = 0; count < 8; count++) {
            long characters = 0x7e7e7e7e7e7e7e7eL & (1L << 8 * count) - 1;
            if (count > 0) {
                e.same(count + " characters, and no more", count, new ShadeCards().put(characters));
            }
            for (int bit = 8 * count + 8; bit < 64; bit++) {
                e.same(count + " characters, and the bit " + bit, "throws.IllegalArgumentException",
                        putAnswer(characters | 1L << bit));
            }
            if (count < 7) {
                refused(e, count + " characters, and one above 8 bits that are 0", characters | 0x21L << 8 * count + 8);
            }
        }
        refused(e, "the highest bit alone", Long.MIN_VALUE);
        refused(e, "seven characters, the lowest 8 bits are 0", 0x7e7e7e7e7e7e7e00L);
        refused(e, "the character of the next 8 bits alone", 0x2100);
    }

    private static Object putAnswer(long characters) {
        ShadeCards cards = new ShadeCards();
        return Sight.answer(() -> cards.put(characters));
    }

    private static void codes(Edges e) {
        long all = 0x5050505050505050L;
        for (int place = 0; place < 8; place++) {
            int shift = 8 * place;
            for (int code = 1; code <= 255; code++) {
                long characters = all & ~(255L << shift) | (long) code << shift;
                Object due = code >= 33 && code <= 126 ? (Object) 8 : "throws.IllegalArgumentException";
                e.same("code " + code + " as character " + (7 - place), due, putAnswer(characters));
            }
        }
        for (int code : new int[] {0, 1, 32, 127, 128, 255}) {
            refused(e, "code " + code, code);
            refused(e, "code " + code + " behind a character", 0x5000 | code);
        }
        for (int code : new int[] {1, 32, 127, 255}) {
            refused(e, "code " + code + " ahead of a character", (long) code << 8 | 0x50);
            refused(e, "code " + code + " as the first of eight", (long) code << 56 | all >>> 8);
        }
        refused(e, "all bits", -1);
        refused(e, "the greatest number", Long.MAX_VALUE);
    }

    private static void longerThanSixty(Edges e) {
        for (int room = 0; room < 8; room++) {
            String there = "x".repeat(60 - room);
            Supplier<ShadeCards> scene = () -> Check.write(new ShadeCards(), there);
            for (int count = 1; count <= 8; count++) {
                long characters = Check.packed("~".repeat(count));
                if (count > room) {
                    e.refuses(count + " where " + room + " fit", Edges.NOT_NOW, scene, x -> x.put(characters));
                } else {
                    e.same(count + " where " + room + " fit", 60 - room + count, scene.get().put(characters));
                }
            }
        }
        ShadeCards cards = Check.write(new ShadeCards(), ".;".repeat(29) + ".");
        e.same("refused", "throws.IllegalStateException", Sight.answer(() -> cards.put(Check.packed("99"))));
        e.same("refused, for its code", "throws.IllegalArgumentException", Sight.answer(() -> cards.put(' ')));
        e.same("nothing of it is there", 60, cards.put('9'));
        cards.read();
        e.same("the text is the one of before, and 9", 29 + 90, cards.time());
    }

    private static void wipe(Edges e) {
        e.in("Promise 35: wipe");
        e.holds("Empties the pad, and returns the length that it had.", () -> {
            ShadeCards cards = new ShadeCards();
            e.same("an empty pad", 0, cards.wipe());
            Check.write(cards, "x");
            e.same("one character", 1, cards.wipe());
            e.same("empty", 0, cards.padLength());
            Check.write(cards, ".;".repeat(30));
            e.same("a full pad", 60, cards.wipe());
            e.same("empty again", 0, cards.padLength());
            e.same("wiped twice", 0, cards.wipe());
            e.same("its fault", 0, cards.fault());
            e.same("what is put then stands alone", -1, Check.write(cards, "r0").fault());
            e.same("no changes", 0, cards.undoable());
            nothingOfALongerText(e);
        });
    }

    private static void nothingOfALongerText(Edges e) {
        String[][] tooEarly = {{"o", "o0"}, {"o0", "o07"}, {"r", "r0"}, {"f7", "f79"}, {"d7", "d72"}, {"g", "g0=0"},
            {"g2", "g2=0"}, {"g23=", "g23=4"}, {"a", "a1"}, {"r0;", "r0;."}};
        for (String[] texts : tooEarly) {
            e.same("fault of " + texts[0] + " behind " + texts[1], texts[0].length(), faultBehind(texts[0], texts[1]));
        }
        String[][] whole = {{"a1", "a10"}, {".", ".9"}, {"r0", "r0;x"}, {"g1=0", "g1=00"}};
        for (String[] texts : whole) {
            e.same("fault of " + texts[0] + " behind " + texts[1], -1, faultBehind(texts[0], texts[1]));
        }
    }

    private static int faultBehind(String text, String longer) {
        ShadeCards cards = Check.write(new ShadeCards(), longer);
        cards.wipe();
        return Check.write(cards, text).fault();
    }

    private static void padLength(Edges e) {
        e.in("Promise 36: padLength");
        e.holds("Returns the length of the pad.", () -> {
            ShadeCards cards = new ShadeCards();
            e.same("an empty pad", 0, cards.padLength());
            cards.put('x');
            e.same("one character", 1, cards.padLength());
            Check.write(cards, "x".repeat(58));
            e.same("nearly full", 59, cards.padLength());
            cards.put('x');
            e.same("full", 60, cards.padLength());
            e.same("refused", "throws.IllegalStateException", Sight.answer(() -> cards.put('x')));
            e.same("still full", 60, cards.padLength());
            cards.save(0);
            cards.wipe();
            cards.restore(0);
            e.same("restore leaves it", 0, cards.padLength());
        });
    }

    private static void fault(Edges e) {
        e.in("Promise 37: fault");
        e.holds("Returns the fault of the pad,", () -> {
            fault(e, "", 0);
            fault(e, "x", 0);
            fault(e, "r", 1);
            fault(e, "r3", 1);
            fault(e, "r0;".repeat(20), 60);
            fault(e, "r0;".repeat(19) + "r03", 59);
            ShadeCards cards = Check.write(new ShadeCards(), "r0;x");
            e.same("asked once", 3, cards.fault());
            e.same("asked again", 3, cards.fault());
            e.same("the pad stays", 4, cards.padLength());
        });
        e.holds("NONE if there is none.", () -> {
            fault(e, ".", -1);
            fault(e, "r0;".repeat(19) + "r0", -1);
            fault(e, "r0;".repeat(19) + "o00", -1);
            fault(e, ".;".repeat(28) + "g0=0", -1);
        });
    }
}
