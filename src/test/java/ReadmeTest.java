import java.io.IOException;
import java.nio.file.Files;
import java.nio.file.Path;
import java.util.Iterator;
import java.util.List;

/** The calls of README.md answer what stands behind them there. */
public final class ReadmeTest {
    private static final Check CHECK = new Check("ReadmeTest");

    private final Iterator<String> lines;

    private ReadmeTest(List<String> lines) {
        this.lines = lines.iterator();
    }

    public static void main(String[] args) throws IOException {
        List<String> lines = Files.readAllLines(Path.of(args[2])).stream()
                .filter(line -> line.startsWith("cards.") || line.startsWith("ShadeCards cards")).toList();
        new ReadmeTest(lines).all();
        CHECK.end();
    }

    private void all() {
        aDay();
        aText();
        CHECK.same("a line that is not tried", false, lines.hasNext());
    }

    private void aDay() {
        CHECK.same("the first line", "ShadeCards cards = new ShadeCards();", lines.next());
        ShadeCards cards = new ShadeCards();
        told("cards.setChimney(0, 9, 2, 2, 0);", cards.setChimney(0, 9, 2, 2, 0));
        told("cards.setGrey(1, 3);", cards.setGrey(1, 3));
        told("cards.watch(0, 0);", cards.watch(0, 0));
        told("cards.noticesIn(3);", cards.noticesIn(3));
        told("cards.pass(3);", cards.pass(3));
        told("cards.fineOf(0);", cards.fineOf(0));
        told("cards.wouldAppeal(0);", cards.wouldAppeal(0));
        told("cards.appeal(0);", cards.appeal(0));
        told("cards.undo();", cards.undo());
        told("cards.save(1);", cards.save(1));
        told("cards.pass(93);", cards.pass(93));
        told("cards.time();", cards.time());
        told("cards.longestRow(0, 3, true);", cards.longestRow(0, 3, true));
        told("cards.restore(1);", cards.restore(1));
        told("cards.time();", cards.time());
    }

    private void aText() {
        CHECK.same("the first line of the text", "ShadeCards cards = new ShadeCards();", lines.next());
        ShadeCards cards = new ShadeCards();
        told("cards.put(packed(\"f09;d02;\"));", cards.put(Check.packed("f09;d02;")));
        told("cards.put(packed(\"g12=4;\"));", cards.put(Check.packed("g12=4;")));
        told("cards.put(packed(\"o10;.3;a\"));", cards.put(Check.packed("o10;.3;a")));
        told("cards.fault();", cards.fault());
        told("cards.put(packed(\"0;r1\"));", cards.put(Check.packed("0;r1")));
        told("cards.fault();", cards.fault());
        told("cards.read();", cards.read());
        told("cards.stands(0);", cards.stands(0));
        told("cards.undoable();", cards.undoable());
    }

    /** The page's next line is this call, with this answer behind it. */
    private void told(String call, Object answer) {
        String line = lines.hasNext() ? lines.next() : "";
        String due = line.replaceAll(" *// ([^:]*):.*", "  // $1");
        CHECK.same("README.md: " + line, due, call + "  // " + answer);
    }
}
