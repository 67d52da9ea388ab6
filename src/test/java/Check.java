import java.util.function.Consumer;
import java.util.function.Supplier;

/** Counts what is as due, prints what is not, and ends the run with exit code 1 if there was any. */
final class Check {
    private final String name;
    private int right = 0;
    private int wrong = 0;
    private String subject = "";

    Check(String name) {
        this.name = name;
    }

    /** What the checks from now on are for; it is told with each that is not as due. */
    void about(String words) {
        subject = words.isEmpty() ? "" : "[" + words + "] ";
    }

    int count() {
        return right + wrong;
    }

    void same(String what, Object due, Object got) {
        if (due.equals(got)) {
            right++;
        } else {
            wrong++;
            System.out.println(name + ": " + subject + what + " answered " + got + ", due is " + due);
        }
    }

    /** The call throws just this exception, and leaves the object as a twin that was not called. */
    void refuses(String what, Class<?> due, Supplier<ShadeCards> scene, Consumer<ShadeCards> call) {
        ShadeCards called = scene.get();
        Object got = "nothing";
        try {
            call.accept(called);
        } catch (RuntimeException e) {
            got = e.getClass();
        }
        same(what + " throws", due, got);
        same("what stands behind " + what, Sight.of(scene.get()), Sight.of(called));
    }

    void end() {
        System.out.println(name + ": " + right + " as due, " + wrong + " not");
        if (wrong > 0 || right == 0) {
            System.exit(1);
        }
    }

    /** Puts a text on the pad, in as few calls as can be. */
    static ShadeCards write(ShadeCards cards, String text) {
        for (int from = 0; from < text.length(); from += 8) {
            cards.put(packed(text.substring(from, Math.min(text.length(), from + 8))));
        }
        return cards;
    }

    static long packed(String signs) {
        long packed = 0;
        for (int at = 0; at < signs.length(); at++) {
            packed = packed << 8 | signs.charAt(at);
        }
        return packed;
    }
}
