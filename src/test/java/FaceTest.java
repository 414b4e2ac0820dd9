import java.io.IOException;
import java.lang.reflect.Constructor;
import java.lang.reflect.Field;
import java.lang.reflect.Method;
import java.lang.reflect.Modifier;
import java.nio.file.Files;
import java.nio.file.Path;
import java.util.Set;
import java.util.TreeSet;
import java.util.regex.Matcher;
import java.util.regex.Pattern;

/** The face is that of the document, to the letter, and the source keeps off what LANGUAGE.md rules out. */
public final class FaceTest {
    private static final Path SOURCE = Path.of("src/main/java/EchoChamber.java");
    private static final Path DOCUMENT = Path.of("../shared/DOC.md");
    private static final String[] RULED_OUT = {
        "::", "->", "\\bcatch\\b", "\\bfinally\\b", "\\bsynchronized\\b", "\\bassert\\b", "\\binstanceof\\b",
        "\\bpackage\\b", "\\bprotected\\b", "\\bMath\\b", "\\bSystem\\b", "\\bRandom\\b", "\\bThread\\b", "Exact\\b",
        "\\bNullPointerException\\b", "\\bArrayIndexOutOfBoundsException\\b", "\\brecord\\b", "[^\\x00-\\x7f]"};

    private static final Check check = new Check("FaceTest");

    public static void main(String[] args) throws IOException {
        face();
        nothingElseIsSeen();
        source();
        sections();
        check.end();
    }

    private static void face() throws IOException {
        Set<String> due = new TreeSet<>();
        Matcher lines = Pattern.compile("(?m)^    (public [^;]*);$").matcher(Files.readString(DOCUMENT));
        while (lines.find()) {
            due.add(lines.group(1).replaceAll("\\b(int|boolean) \\w+([,)])", "$1$2"));
        }
        Set<String> got = new TreeSet<>();
        for (Method method : EchoChamber.class.getDeclaredMethods()) {
            if (!Modifier.isPrivate(method.getModifiers())) {
                got.add(written(method.getReturnType().getSimpleName() + " " + method.getName(),
                        method.getModifiers(), method.getParameterTypes(), method.getExceptionTypes()));
            }
        }
        for (Constructor<?> made : EchoChamber.class.getDeclaredConstructors()) {
            got.add(written("EchoChamber", made.getModifiers(), made.getParameterTypes(), made.getExceptionTypes()));
        }
        check.due("the public face", got, due);
        check.due("its size", got.size(), 31);
        check.due("the class", Modifier.toString(EchoChamber.class.getModifiers()), "public final");
    }

    private static String written(String name, int modifiers, Class<?>[] parameters, Class<?>[] exceptions) {
        String thrown = exceptions.length == 0 ? "" : " throws " + names(exceptions);
        return Modifier.toString(modifiers) + " " + name + "(" + names(parameters) + ")" + thrown;
    }

    private static String names(Class<?>[] classes) {
        StringBuilder text = new StringBuilder();
        for (Class<?> c : classes) {
            text.append(text.length() == 0 ? "" : ", ").append(c.getSimpleName());
        }
        return text.toString();
    }

    private static void nothingElseIsSeen() {
        for (Field field : EchoChamber.class.getDeclaredFields()) {
            check.due("the field " + field.getName() + " is private", Modifier.isPrivate(field.getModifiers()), true);
        }
        Set<String> open = new TreeSet<>();
        for (Method method : EchoChamber.class.getMethods()) {
            open.add(method.getName());
        }
        for (Class<?> inside : EchoChamber.class.getDeclaredClasses()) {
            check.due(inside.getSimpleName() + " is static", Modifier.isStatic(inside.getModifiers()), true);
            for (Method method : inside.getDeclaredMethods()) {
                check.due("the name " + method.getName() + " is the face's", open.contains(method.getName()), false);
            }
        }
    }

    private static void source() throws IOException {
        String source = Files.readString(SOURCE);
        for (String pattern : RULED_OUT) {
            check.due("the source has " + pattern, Pattern.compile(pattern).matcher(source).find(), false);
        }
    }

    /** Ahead of its calls the class says what they are of, as the document wants it, and they stand in its order. */
    private static void sections() throws IOException {
        String source = Files.readString(SOURCE);
        Matcher sections = Pattern.compile("Ahead of the calls ([^.]*) the interface says: ([^.]*)\\.")
                .matcher(Files.readString(DOCUMENT));
        int seen = 0;
        int calls = 0;
        while (sections.find()) {
            String title = sections.group(2).substring(0, 1).toUpperCase() + sections.group(2).substring(1);
            seen = inOrder(source, "    // " + title + "\n", seen);
            for (String name : sections.group(1).split(", ")) {
                seen = inOrder(source, " " + name.replace("`", "") + "(", seen);
                calls++;
            }
        }
        check.due("calls in sections", calls, 30);
    }

    private static int inOrder(String source, String what, int after) {
        int place = source.indexOf(what, after);
        check.due("in its order: " + what.strip(), place > after, true);
        return Math.max(place, after);
    }
}
