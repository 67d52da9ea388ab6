import java.io.IOException;
import java.lang.reflect.Constructor;
import java.lang.reflect.Field;
import java.lang.reflect.Method;
import java.lang.reflect.Modifier;
import java.nio.file.Files;
import java.nio.file.Path;
import java.util.ArrayList;
import java.util.List;
import java.util.Set;
import java.util.regex.Matcher;
import java.util.regex.Pattern;

/** What of ../shared/LANGUAGE.md can be seen from the program's text and its classes. */
public final class LanguageTest {
    private static final Check CHECK = new Check("LanguageTest");
    private static final String[] FORBIDDEN = {"package ", "->", "::", "\\btry\\b", "\\bcatch\\b", "\\bfinally\\b",
        "\\bassert\\b", "\\bsynchronized\\b", "\\bvar\\b", "\\bstatic \\{", "Exact\\b", "System\\.(?!arraycopy)",
        "\\bObject\\b", "\\bMath\\.(random|sqrt|pow)", "\\b(equals|hashCode|toString)\\(", "\\bThread\\b",
        "\\bThrowable\\b", "\\bRandom\\b", "\" \\+|\\+ \"", "\\binstanceof\\b", "while \\(true\\)", "for \\(;;\\)"};
    private static final Set<String> THROWN = Set.of("IllegalStateException", "IllegalArgumentException",
            "IndexOutOfBoundsException");

    public static void main(String[] args) throws IOException {
        String text = Files.readString(Path.of(args[0])).replaceAll("(?s)/\\*.*?\\*/", "").replaceAll("//.*", "");
        CHECK.same("signs are 1 to 127", true, text.chars().allMatch(sign -> sign > 0 && sign < 128));
        for (String pattern : FORBIDDEN) {
            Matcher matcher = Pattern.compile(pattern).matcher(text);
            CHECK.same("there is " + pattern, false, matcher.find());
        }
        Matcher imports = Pattern.compile("import ([^;]*);").matcher(text);
        while (imports.find()) {
            CHECK.same("import", "java.util.Arrays", imports.group(1));
        }
        Matcher thrown = Pattern.compile("throw (new )?(\\w+)").matcher(text);
        while (thrown.find()) {
            CHECK.same("thrown: " + thrown.group(2), true, THROWN.contains(thrown.group(2)));
        }
        classes();
        longMethods(text);
        CHECK.end();
    }

    private static void classes() {
        List<Class<?>> classes = new ArrayList<>(List.of(ShadeCards.class.getDeclaredClasses()));
        classes.add(ShadeCards.class);
        CHECK.same("at most twelve classes", true, classes.size() <= 12);
        for (Class<?> one : classes) {
            int fields = 0;
            for (Field field : one.getDeclaredFields()) {
                boolean fixed = Modifier.isStatic(field.getModifiers());
                fields += fixed ? 0 : 1;
                CHECK.same(field + " is a final one, if static", true, !fixed || Modifier.isFinal(field.getModifiers()));
            }
            CHECK.same(one.getSimpleName() + " has at most twenty fields", true, fields <= 20);
            for (Method method : one.getDeclaredMethods()) {
                CHECK.same(method + " has at most seven parameters", true, method.getParameterCount() <= 7);
            }
            for (Constructor<?> made : one.getDeclaredConstructors()) {
                CHECK.same(made + " has at most seven parameters", true, made.getParameterCount() <= 7);
            }
        }
    }

    /** By the indentation that the program keeps to: a method of the face ends at four blanks, one inside at eight. */
    private static void longMethods(String text) {
        int length = 0;
        for (String line : text.split("\n")) {
            boolean starts = line.matches(" {4}( {4})?[\\w\\[\\]]+( [\\w\\[\\]]+)*\\(.*\\{|.*throws .*\\{");
            length = starts ? 1 : length + 1;
            if (line.matches(" {4}( {4})?}")) {
                CHECK.same("a method that ends with line: " + line, true, length <= 60);
                length = 0;
            }
        }
    }
}
