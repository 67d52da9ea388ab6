import java.io.IOException;
import java.lang.reflect.Constructor;
import java.lang.reflect.Field;
import java.lang.reflect.Method;
import java.lang.reflect.Modifier;
import java.nio.file.Files;
import java.nio.file.Path;
import java.util.ArrayList;
import java.util.HashSet;
import java.util.List;
import java.util.Set;
import java.util.regex.Matcher;
import java.util.regex.Pattern;

/** What of ../shared/LANGUAGE.md can be seen from the program's text and its classes. */
public final class LanguageTest {
    private static final Check CHECK = new Check("LanguageTest");
    private static final String[] FORBIDDEN = {"package ", "->", "::", "\\btry\\b", "\\bcatch\\b", "\\bfinally\\b",
        "\\bassert\\b", "\\bsynchronized\\b", "\\bvar\\b", "\\bstatic \\{", "Exact\\b", "System\\.(?!arraycopy)",
        "\\bObject\\b", "\\bMath\\.(random|sqrt|pow)", "\\b(equals|hashCode|toString)\\(", "\\bThread\\b",
        "\\bThrowable\\b", "\\bRandom\\b", "\" \\+|\\+ \"", "\\binstanceof\\b", "while \\(true\\)", "for \\(;;\\)"};
    /** What of the library stands in the program; the classes inside it come on top. */
    private static final Set<String> LIBRARY = Set.of("ShadeCards", "Arrays", "Integer", "Math", "System",
            "IllegalStateException", "IllegalArgumentException", "IndexOutOfBoundsException");
    private static final Set<String> FUNCTIONS = Set.of("Arrays.fill", "Integer.bitCount", "Math.abs", "Math.max",
            "Math.min", "System.arraycopy");
    private static final Set<String> THROWN = Set.of("IllegalStateException", "IllegalArgumentException",
            "IndexOutOfBoundsException");

    public static void main(String[] args) throws IOException {
        String text = Files.readString(Path.of(args[0])).replaceAll("(?s)/\\*.*?\\*/", "").replaceAll("//.*", "");
        CHECK.same("signs are 1 to 127", true, text.chars().allMatch(sign -> sign > 0 && sign < 128));
        for (String pattern : FORBIDDEN) {
            Matcher matcher = Pattern.compile(pattern).matcher(text);
            CHECK.same("there is " + pattern, false, matcher.find());
        }
        Matcher imports = Pattern.compile("import ([^;]*);").matcher(text);
        while (imports.find()) {
            CHECK.same("import", "java.util.Arrays", imports.group(1));
        }
        library(text);
        Matcher thrown = Pattern.compile("throw (new )?(\\w+)").matcher(text);
        while (thrown.find()) {
            CHECK.same("thrown: " + thrown.group(2), true, THROWN.contains(thrown.group(2)));
        }
        classes();
        longMethods(text);
        newObjects(text);
        CHECK.end();
    }

    private static void library(String text) {
        Set<String> known = new HashSet<>(LIBRARY);
        for (Class<?> inside : ShadeCards.class.getDeclaredClasses()) {
            known.add(inside.getSimpleName());
        }
        String code = text.replaceAll("\"[^\"]*\"", "\"\"").replaceAll("(?m)^import .*$", "");
        Matcher names = Pattern.compile("\\b[A-Z]\\w*[a-z]\\w*").matcher(code);
        while (names.find()) {
            CHECK.same("known: " + names.group(), true, known.contains(names.group()));
        }
        Matcher functions = Pattern.compile("\\b(Arrays|Integer|Math|System)\\.\\w+").matcher(code);
        while (functions.find()) {
            CHECK.same("of rule 4: " + functions.group(), true, FUNCTIONS.contains(functions.group()));
        }
    }

    /** All calls of a run live in one room: objects are made with the object alone, and an exception where it is thrown. */
    private static void newObjects(String text) {
        boolean inConstructor = false;
        for (String line : text.split("\n")) {
            if (line.matches(" {4}( {4})?(?!for |if |while |switch )[^ }].*\\{")) {
                inConstructor = line.matches(" *(public )?[A-Z]\\w*\\(.*\\{");
            }
            boolean field = line.matches(" {4}( {4})?(private )?final .* = new .*;");
            boolean thrown = line.matches(" *throw new \\w+\\(\".*\"\\);");
            if (line.contains("new ")) {
                CHECK.same("made in no call: " + line, true, inConstructor || field || thrown);
            }
        }
    }

    private static void classes() {
        List<Class<?>> classes = new ArrayList<>(List.of(ShadeCards.class.getDeclaredClasses()));
        classes.add(ShadeCards.class);
        CHECK.same("at most twelve classes", true, classes.size() <= 12);
        for (Class<?> one : classes) {
            int fields = 0;
            for (Field field : one.getDeclaredFields()) {
                boolean fixed = Modifier.isStatic(field.getModifiers());
                fields += fixed ? 0 : 1;
                CHECK.same(field + " is a final one, if static", true, !fixed || Modifier.isFinal(field.getModifiers()));
            }
            CHECK.same(one.getSimpleName() + " has at most twenty fields", true, fields <= 20);
            for (Method method : one.getDeclaredMethods()) {
                CHECK.same(method + " has at most seven parameters", true, method.getParameterCount() <= 7);
            }
            for (Constructor<?> made : one.getDeclaredConstructors()) {
                CHECK.same(made + " has at most seven parameters", true, made.getParameterCount() <= 7);
            }
        }
    }

    /** By the indentation that the program keeps to: a method of the face ends at four blanks, one inside at eight. */
    private static void longMethods(String text) {
        int length = 0;
        for (String line : text.split("\n")) {
            boolean starts = line.matches(" {4}( {4})?[\\w\\[\\]]+( [\\w\\[\\]]+)*\\(.*\\{|.*throws .*\\{");
            length = starts ? 1 : length + 1;
            if (line.matches(" {4}( {4})?}")) {
                CHECK.same("a method that ends with line: " + line, true, length <= 60);
                length = 0;
            }
        }
    }
}
