import java.io.IOException;
import java.lang.reflect.Field;
import java.lang.reflect.Method;
import java.lang.reflect.Modifier;
import java.nio.file.Files;
import java.nio.file.Path;
import java.util.Arrays;
import java.util.Set;
import java.util.TreeSet;
import java.util.regex.Matcher;
import java.util.regex.Pattern;

/** The document's face, and the rules of LANGUAGE.md that can be seen from outside or in the source's words. */
public final class FaceTest {
    private static final Checks CHECKS = new Checks("FaceTest");
    private static final String[] FACE = {"about 2", "again 4", "change 2", "changes 0", "check 0", "count 1", "in 1",
        "letter 1", "life 3", "make 3", "order 2", "plan 2", "planned 2", "quick 0", "related 3", "relation 3",
        "ring 0", "tick 1", "undo 3", "waits 2"};
    private static final String[] CONSTANTS = {"NONE", "KIND", "BUSY", "CLASH", "RING", "FULL"};

    public static void main(String[] args) throws Exception {
        theClass();
        methods();
        constants();
        parts();
        source();
        CHECKS.end();
    }

    private static void theClass() {
        int modifiers = ServiceTree.class.getModifiers();
        CHECKS.that("the class is public and final", Modifier.isPublic(modifiers) && Modifier.isFinal(modifiers));
        CHECKS.due("constructors", ServiceTree.class.getDeclaredConstructors().length, 1);
        CHECKS.due("public constructors", ServiceTree.class.getConstructors().length, 1);
        CHECKS.due("its parameters", ServiceTree.class.getConstructors()[0].getParameterCount(), 0);
    }

    private static void methods() {
        Set<String> open = new TreeSet<>();
        Set<String> openNames = new TreeSet<>();
        for (Method m : ServiceTree.class.getDeclaredMethods()) {
            if (!Modifier.isPrivate(m.getModifiers())) {
                open.add(m.getName() + " " + m.getParameterCount());
                openNames.add(m.getName());
                CHECKS.that(m.getName() + " is public", Modifier.isPublic(m.getModifiers()));
                CHECKS.that(m.getName() + " answers an int", m.getReturnType() == int.class);
                for (Class<?> type : m.getParameterTypes()) {
                    CHECKS.that(m.getName() + " takes ints", type == int.class);
                }
            }
        }
        CHECKS.that("the methods are " + Arrays.toString(FACE) + ", not " + open,
            open.equals(new TreeSet<>(Arrays.asList(FACE))));
        for (Method m : ServiceTree.class.getDeclaredMethods()) {
            boolean hidden = Modifier.isPrivate(m.getModifiers());
            CHECKS.that("no private " + m.getName(), !hidden || !openNames.contains(m.getName()));
        }
    }

    private static void constants() throws IllegalAccessException {
        int seen = 0;
        for (Field f : ServiceTree.class.getDeclaredFields()) {
            if (Modifier.isPrivate(f.getModifiers())) {
                continue;
            }
            seen++;
            int place = Arrays.asList(CONSTANTS).indexOf(f.getName());
            CHECKS.that(f.getName() + " is of the face", place >= 0);
            int modifiers = f.getModifiers();
            CHECKS.that(f.getName() + " is public static final", Modifier.isPublic(modifiers)
                && Modifier.isStatic(modifiers) && Modifier.isFinal(modifiers) && f.getType() == int.class);
            CHECKS.due(f.getName(), f.getInt(null), -1 - place);
        }
        CHECKS.due("constants", seen, CONSTANTS.length);
    }

    private static void parts() {
        Class<?>[] inside = ServiceTree.class.getDeclaredClasses();
        CHECKS.that("at most some twelve classes", inside.length + 1 <= 12);
        for (Class<?> part : inside) {
            CHECKS.that(part + " is static", Modifier.isStatic(part.getModifiers()));
            CHECKS.that(part + " is not open", !Modifier.isPublic(part.getModifiers())
                && !Modifier.isProtected(part.getModifiers()));
            sizes(part);
        }
        sizes(ServiceTree.class);
    }

    private static void sizes(Class<?> c) {
        int fields = 0;
        for (Field f : c.getDeclaredFields()) {
            boolean constant = Modifier.isStatic(f.getModifiers());
            fields += constant ? 0 : 1;
            CHECKS.that(f + " is final if static", !constant || Modifier.isFinal(f.getModifiers()));
        }
        CHECKS.that(c + " has at most some twenty fields", fields <= 20);
        for (Method m : c.getDeclaredMethods()) {
            CHECKS.that(m + " takes at most seven", m.getParameterCount() <= 7);
            boolean ofTheFace = Arrays.asList(FACE).stream().anyMatch(call -> call.startsWith(m.getName() + " "));
            CHECKS.that(m + " bears no name of the face", !ofTheFace || Modifier.isPublic(m.getModifiers()));
        }
    }

    /** A method ends where its own indent closes it. */
    private static void methodsAreShort(String text) {
        Matcher method = Pattern.compile("(?ms)^( +)[^\\s/*][^\n;={]*\\) \\{\n.*?^\\1\\}$").matcher(text);
        int seen = 0;
        while (method.find()) {
            seen++;
            long lines = method.group().lines().count();
            CHECKS.that(method.group().lines().findFirst().get() + " has " + lines + " lines", lines <= 60);
        }
        CHECKS.that("methods were found", seen > 60);
    }

    private static void source() throws IOException {
        String text = Files.readString(Path.of("src/main/java/ServiceTree.java"));
        for (int i = 0; i < text.length(); i++) {
            if (text.charAt(i) > 126) {
                CHECKS.that("only plain signs, at " + i, false);
            }
        }
        methodsAreShort(text);
        String code = text.replaceAll("(?s)/\\*.*?\\*/", " ").replaceAll("//[^\n]*", " ");
        String[] banned = {"\\b(throws?|try|catch|finally|synchronized|assert|yield|var|Object|Thread)\\b",
            "\\bSystem\\b(?!\\.arraycopy\\b)",
            "->", "::", "\\bstatic\\s*\\{", "\\bpackage\\b", "\\w+Exact\\b", "\\b(equals|hashCode|toString)\\b",
            "\\bimport\\s+(?!java\\.util\\.(ArrayList|List|Arrays);)", "\"", "\\bnew\\s+\\w+\\s*\\([^;]*\\)\\s*\\{"};
        for (String words : banned) {
            Matcher found = Pattern.compile(words).matcher(code);
            CHECKS.that("no " + words + " in the source", !found.find());
        }
        Matcher library = Pattern.compile("\\b(Integer|Long|Math|Arrays)\\.(\\w+)").matcher(code);
        Set<String> allowed = Set.of("compare", "max", "min", "abs", "bitCount", "floorDiv", "floorMod", "fill", "copyOf",
            "copyOfRange");
        while (library.find()) {
            CHECKS.that(library.group() + " is of the library", allowed.contains(library.group(2)));
        }
    }
}
