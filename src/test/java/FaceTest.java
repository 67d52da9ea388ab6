import java.io.IOException;
import java.lang.reflect.Constructor;
import java.lang.reflect.Field;
import java.lang.reflect.Method;
import java.lang.reflect.Modifier;
import java.nio.file.Files;
import java.nio.file.Path;
import java.util.ArrayList;
import java.util.List;
import java.util.Set;
import java.util.TreeSet;
import java.util.regex.Matcher;
import java.util.regex.Pattern;

/** The face has what the document lists, with the throws clauses, and nothing else. */
public final class FaceTest {
    private static final String[] DUE = {
        "int setChimney(int,int,int,int,int) throws IndexOutOfBoundsException,IllegalArgumentException",
        "int setGrey(int,int) throws IllegalArgumentException",
        "int watch(int,int) throws IndexOutOfBoundsException,IllegalArgumentException",
        "int setBias(int,int) throws IndexOutOfBoundsException,IllegalArgumentException",
        "int setLimit(int,int) throws IllegalArgumentException",
        "int pass(int) throws IllegalArgumentException",
        "boolean appeal(int) throws IndexOutOfBoundsException,IllegalStateException",
        "int read() throws IllegalArgumentException",
        "int shadeOf(int,int) throws IndexOutOfBoundsException,IllegalArgumentException",
        "int nextStoking(int,int) throws IndexOutOfBoundsException,IllegalArgumentException",
        "int smoke(int,int,int,boolean) throws IndexOutOfBoundsException,IllegalArgumentException",
        "int greyOf(int) throws IllegalArgumentException",
        "int time()",
        "int watchedBy(int) throws IndexOutOfBoundsException",
        "int tirednessOf(int) throws IndexOutOfBoundsException",
        "int wouldRead(int,int) throws IndexOutOfBoundsException",
        "int readingOf(int,int) throws IndexOutOfBoundsException,IllegalArgumentException",
        "int readingsFrom(int,int) throws IndexOutOfBoundsException,IllegalArgumentException",
        "int longestRow(int,int,boolean) throws IndexOutOfBoundsException,IllegalArgumentException",
        "int errorsOf(int) throws IndexOutOfBoundsException",
        "int bestObserver()",
        "int notices()",
        "int chimneyOf(int) throws IndexOutOfBoundsException",
        "int fineOf(int) throws IndexOutOfBoundsException",
        "boolean stands(int) throws IndexOutOfBoundsException",
        "int wouldAppeal(int) throws IndexOutOfBoundsException",
        "int finesOf(int,boolean) throws IndexOutOfBoundsException",
        "int worstChimney()",
        "int toWatch(int,boolean) throws IllegalArgumentException",
        "int noticesIn(int) throws IllegalArgumentException",
        "int ticksToNotice(int) throws IndexOutOfBoundsException",
        "int mildLimit(int) throws IllegalArgumentException",
        "int put(long) throws IllegalArgumentException,IllegalStateException",
        "int wipe()",
        "int padLength()",
        "int fault()",
        "int undo() throws IllegalStateException",
        "int undoable()",
        "int save(int) throws IndexOutOfBoundsException",
        "int restore(int) throws IndexOutOfBoundsException,IllegalStateException",
    };

    private static final Pattern SIGNATURE = Pattern.compile("(\\w+) (\\w+)\\(([^)]*)\\)( throws ([\\w, ]+))?");

    public static void main(String[] args) throws IOException {
        Check check = new Check("FaceTest");
        checkDocument(check, Files.readString(Path.of(args[1])));
        Class<?> face = ShadeCards.class;
        check.same("modifiers", "public final", Modifier.toString(face.getModifiers()));
        check.same("NONE", -1, ShadeCards.NONE);
        checkMethods(check, face);
        checkOthers(check, face);
        check.end();
    }

    /** The document lists the face at its start, and tells each method again in its promise. */
    private static void checkDocument(Check check, String document) {
        Set<String> listed = new TreeSet<>();
        document.lines().filter(line -> line.matches(" {4}public .*\\(.*;")).filter(line -> !line.contains(" ShadeCards()"))
                .forEach(line -> listed.add(plain(line)));
        check.same("methods that the document lists", new TreeSet<>(List.of(DUE)), listed);
        Set<String> promised = new TreeSet<>();
        document.lines().filter(line -> line.matches("`\\w+ \\w+\\(.*`: .*"))
                .forEach(line -> promised.add(plain(line.substring(0, line.indexOf("`: ")))));
        check.same("methods that the promises tell", new TreeSet<>(List.of(DUE)), promised);
        check.same("the constant", true, document.contains("    public static final int NONE = -1;\n"));
        check.same("the constructor", true, document.contains("    public ShadeCards();\n"));
    }

    /** Without the names of the parameters. */
    private static String plain(String line) {
        Matcher parts = SIGNATURE.matcher(line);
        if (!parts.find()) {
            return line;
        }
        String parameters = parts.group(3).replaceAll("(\\w+) \\w+", "$1").replace(" ", "");
        String thrown = parts.group(5) == null ? "" : " throws " + parts.group(5).replace(" ", "");
        return parts.group(1) + " " + parts.group(2) + "(" + parameters + ")" + thrown;
    }

    private static void checkMethods(Check check, Class<?> face) {
        Set<String> seen = new TreeSet<>();
        Set<String> publicNames = new TreeSet<>();
        List<String> privateNames = new ArrayList<>();
        for (Method method : face.getDeclaredMethods()) {
            if (Modifier.isPrivate(method.getModifiers())) {
                privateNames.add(method.getName());
            } else {
                seen.add(told(method));
                publicNames.add(method.getName());
                check.same(method.getName() + " is", "public", Modifier.toString(method.getModifiers()));
            }
        }
        check.same("methods", new TreeSet<>(List.of(DUE)), seen);
        for (Class<?> inside : face.getDeclaredClasses()) {
            for (Method method : inside.getDeclaredMethods()) {
                privateNames.add(method.getName());
            }
        }
        for (String name : privateNames) {
            check.same("a method that is not of the face is named as one of it: " + name, false, publicNames.contains(name));
        }
    }

    private static void checkOthers(Check check, Class<?> face) {
        for (Field field : face.getDeclaredFields()) {
            if (!field.getName().equals("NONE")) {
                check.same(field.getName() + " is private", true, Modifier.isPrivate(field.getModifiers()));
            }
            if (Modifier.isStatic(field.getModifiers())) {
                check.same(field.getName() + " is final", true, Modifier.isFinal(field.getModifiers()));
            }
        }
        Constructor<?>[] constructors = face.getDeclaredConstructors();
        check.same("constructors", 1, constructors.length);
        check.same("the constructor", "public ShadeCards()", constructors[0].toString());
        for (Class<?> inside : face.getDeclaredClasses()) {
            check.same(inside.getSimpleName() + " is static", true, Modifier.isStatic(inside.getModifiers()));
            check.same(inside.getSimpleName() + " is hidden", false,
                    Modifier.isPublic(inside.getModifiers()) || Modifier.isProtected(inside.getModifiers()));
        }
    }

    private static String told(Method method) {
        String parameters = names(method.getParameterTypes());
        String thrown = names(method.getExceptionTypes());
        return method.getReturnType().getSimpleName() + " " + method.getName() + "(" + parameters + ")"
                + (thrown.isEmpty() ? "" : " throws " + thrown);
    }

    private static String names(Class<?>[] classes) {
        List<String> names = new ArrayList<>();
        for (Class<?> one : classes) {
            names.add(one.getSimpleName());
        }
        return String.join(",", names);
    }
}
