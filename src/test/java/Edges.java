import java.util.LinkedHashMap;
import java.util.List;
import java.util.Map;
import java.util.function.Consumer;
import java.util.function.ObjIntConsumer;
import java.util.function.Supplier;
import java.util.regex.Matcher;
import java.util.regex.Pattern;

/**
 * Tests of which each stands for some words of the document: the words have to stand in its section, and no word of
 * the sections that are asked for may be without a test.
 */
final class Edges {
    static final Class<?> NO_SUCH = IndexOutOfBoundsException.class;
    static final Class<?> OUT_OF_RANGE = IllegalArgumentException.class;
    static final Class<?> NOT_NOW = IllegalStateException.class;
    /** A refused call and a change are tried on each: nothing there, something there, and all full. */
    static final List<Supplier<ShadeCards>> SCENES = List.of(ShadeCards::new, Scenes::busy, Scenes::full);
    static final boolean[] WAYS = {false, true};

    private static final Pattern WORD = Pattern.compile("[\\w]+");

    private final Check check;
    private final Map<String, String> sections = new LinkedHashMap<>();
    private final Map<String, boolean[]> told = new LinkedHashMap<>();
    private String section = "";

    Edges(Check check, String document) {
        this.check = check;
        for (String part : document.split("(?m)^##+ ")) {
            String heading = part.lines().findFirst().orElse("");
            sections.put(heading, plain(part.substring(heading.length())));
        }
        sections.forEach((heading, text) -> told.put(heading, new boolean[text.length()]));
    }

    /** The words alone: without the signature, which FaceTest tests, and a heading that is no heading's line. */
    private static String plain(String text) {
        return text.replaceAll("(?m)^`[^`]*`: ", "").replaceAll("(?m)^The sky, observers$", "").replace("`", "")
                .replaceAll("\\s+", " ");
    }

    void in(String heading) {
        section = heading;
        check.same("there is a section " + heading, true, sections.containsKey(heading));
    }

    void holds(String words, Runnable test) {
        check.about(section + ": " + words);
        tell(words);
        int before = check.count();
        Object ended = "well";
        try {
            test.run();
        } catch (RuntimeException e) {
            ended = e;
        }
        check.same("the test ended", "well", ended);
        check.same("the test asked something", true, check.count() > before + 1);
        check.about("");
    }

    private void tell(String words) {
        String text = sections.getOrDefault(section, "");
        int at = text.indexOf(words);
        check.same("the words stand in the document", true, at >= 0);
        for (; at >= 0; at = text.indexOf(words, at + 1)) {
            for (int sign = at; sign < at + words.length(); sign++) {
                told.get(section)[sign] = true;
            }
        }
    }

    /** Each word of the sections whose heading starts so stands in the words of a test. */
    void allTold(String start) {
        int found = 0;
        for (Map.Entry<String, String> entry : sections.entrySet()) {
            if (!entry.getKey().startsWith(start)) {
                continue;
            }
            found++;
            StringBuilder untold = new StringBuilder();
            Matcher words = WORD.matcher(entry.getValue());
            while (words.find()) {
                untold.append(told.get(entry.getKey())[words.start()] ? "" : words.group() + " ");
            }
            check.same("words of " + entry.getKey() + " without a test", "", untold.toString());
        }
        check.same("there are sections " + start, true, found > 0);
    }

    void same(String what, Object due, Object got) {
        check.same(what, due, got);
    }

    /** Refused wherever the object stands. */
    void refuses(String what, Class<?> due, Consumer<ShadeCards> call) {
        for (Supplier<ShadeCards> scene : SCENES) {
            check.refuses(what, due, scene, call);
        }
    }

    void refuses(String what, Class<?> due, Supplier<ShadeCards> scene, Consumer<ShadeCards> call) {
        check.refuses(what, due, scene, call);
    }

    /** The least and the most are taken; the first ones beside them are refused, and the farthest. */
    void range(int least, int most, Class<?> due, ObjIntConsumer<ShadeCards> call) {
        for (int taken : new int[] {least, most}) {
            takes("with " + taken, x -> call.accept(x, taken));
        }
        for (int wrong : new int[] {least - 1, most + 1, Integer.MIN_VALUE, Integer.MAX_VALUE}) {
            refuses("with " + wrong, due, x -> call.accept(x, wrong));
        }
    }

    void takes(String what, Consumer<ShadeCards> call) {
        for (Supplier<ShadeCards> scene : SCENES) {
            same(what + " throws", "nothing", thrown(scene.get(), call));
        }
    }

    private static Object thrown(ShadeCards cards, Consumer<ShadeCards> call) {
        try {
            call.accept(cards);
        } catch (RuntimeException e) {
            return e.getClass();
        }
        return "nothing";
    }

    /** Without a notice, with one, with twenty: what there is is taken, and what there is not is refused. */
    void notices(ObjIntConsumer<ShadeCards> call) {
        for (int wrong : new int[] {-1, 0, 19, Integer.MIN_VALUE, Integer.MAX_VALUE}) {
            refuses("none there, with " + wrong, NO_SUCH, ShadeCards::new, x -> call.accept(x, wrong));
            refuses("one undone, with " + wrong, NO_SUCH, Scenes::noticeUndone, x -> call.accept(x, wrong));
        }
        same("one there, with 0, throws", "nothing", thrown(Scenes.noticed(), x -> call.accept(x, 0)));
        for (int wrong : new int[] {-1, 1, Integer.MIN_VALUE, Integer.MAX_VALUE}) {
            refuses("one there, with " + wrong, NO_SUCH, Scenes::noticed, x -> call.accept(x, wrong));
        }
        for (int taken : new int[] {0, 19}) {
            same("twenty there, with " + taken + ", throws", "nothing",
                    thrown(Scenes.twenty(), x -> call.accept(x, taken)));
        }
        for (int wrong : new int[] {-1, 20, Integer.MIN_VALUE, Integer.MAX_VALUE}) {
            refuses("twenty there, with " + wrong, NO_SUCH, Scenes::twenty, x -> call.accept(x, wrong));
        }
    }

    /** Made twice, as a call by which nothing is different is a change too; undone twice, all is as it was. */
    void isChange(Consumer<ShadeCards> call) {
        for (Supplier<ShadeCards> scene : SCENES) {
            ShadeCards cards = scene.get();
            int before = cards.undoable();
            call.accept(cards);
            same("changes behind it", Math.min(6, before + 1), cards.undoable());
            call.accept(cards);
            int most = Math.min(6, before + 2);
            same("changes behind it, made twice", most, cards.undoable());
            same("changes behind an undo", most - 1, cards.undo());
            same("changes behind two", most - 2, cards.undo());
            same("the state then", Sight.stateOf(scene.get()), Sight.stateOf(cards));
        }
    }

    /** Nothing is different behind the call, wherever it is made. */
    void isQuestion(Consumer<ShadeCards> call) {
        for (Supplier<ShadeCards> scene : SCENES) {
            changesNothing(scene, call);
        }
    }

    void changesNothing(Supplier<ShadeCards> scene, Consumer<ShadeCards> call) {
        ShadeCards cards = scene.get();
        call.accept(cards);
        same("what stands behind it", Sight.of(scene.get()), Sight.of(cards));
    }
}
