import java.io.IOException;
import java.lang.reflect.Method;
import java.nio.file.Files;
import java.nio.file.Path;
import java.util.ArrayList;
import java.util.List;
import java.util.Set;
import java.util.TreeMap;
import java.util.TreeSet;

/** Each sentence that says what a call returns, throws or changes is quoted by a test that is named by its promise. */
public final class DocumentTest {
    private static final Path DOCUMENT = Path.of("../shared/DOC.md");
    private static final Path TESTS = Path.of("src/test/java");
    private static final String NO_PROMISE = "00";
    private static final String CUT = " ..";
    /** How the sentences begin that say nothing of a call's answer, and so need no test. */
    private static final String[] SILENT = {
        "A recording laboratory.", "The class is not thread-safe.", "Rooms and states.", "Answers.", "Filters.", "Use.",
        "Bookings.", "Hours.", "Exceptions.", "Ahead of the calls ", "How the state is held inside the object is free",
        "Use of one object from several threads", "Nothing is promised beyond the answers"};

    private static final Check check = new Check("DocumentTest");

    public static void main(String[] args) throws IOException, ClassNotFoundException {
        Set<String> sentences = sentences(Files.readString(DOCUMENT));
        Set<String> quotes = new TreeSet<>();
        for (Method test : tests()) {
            for (String quote : test.getAnnotation(Says.class).value()) {
                quotes.add(quoted(sentences, test.getName(), quote));
            }
        }
        for (String sentence : sentences) {
            check.due("a test quotes: " + sentence, quotes.contains(sentence), !isSilent(sentence));
        }
        check.end();
    }

    /** Each sentence behind the number of its promise. */
    private static Set<String> sentences(String document) {
        Set<String> found = new TreeSet<>();
        String promise = NO_PROMISE;
        for (String part : document.replaceAll("(?s)```.*?```", "").split("\\n\\s*\\n")) {
            String text = part.strip().replaceAll("\\s+", " ");
            if (text.startsWith("#")) {
                promise = text.startsWith("## Promise ") ? twoDigits(text) : NO_PROMISE;
            } else if (!text.isEmpty() && !text.startsWith("- ")) {
                for (String sentence : text.replaceFirst("^`[^`]*`: ", "").split("(?<=\\.) (?=[A-Z])")) {
                    found.add(promise + " " + sentence);
                }
            }
        }
        return found;
    }

    private static String twoDigits(String title) {
        String number = title.replaceAll("\\D", "");
        return number.length() == 1 ? "0" + number : number;
    }

    private static List<Method> tests() throws IOException, ClassNotFoundException {
        TreeMap<String, Method> found = new TreeMap<>();
        for (String file : TESTS.toFile().list()) {
            if (file.endsWith("Test.java")) {
                String title = file.substring(0, file.length() - ".java".length());
                for (Method method : Class.forName(title).getDeclaredMethods()) {
                    if (method.isAnnotationPresent(Says.class)) {
                        found.put(title + "." + method.getName(), method);
                    }
                }
            }
        }
        return new ArrayList<>(found.values());
    }

    /** The quoted sentence as the document has it: of the test's own promise, or of what stands ahead of them all. */
    private static String quoted(Set<String> sentences, String test, String quote) {
        List<String> found = starting(sentences, test.substring(1, 3) + " " + quote);
        if (found.isEmpty()) {
            found = starting(sentences, NO_PROMISE + " " + quote);
        }
        check.due(test + " quotes one sentence of the document: " + quote, found.size(), 1);
        return found.isEmpty() ? "" : found.get(0);
    }

    private static List<String> starting(Set<String> sentences, String quote) {
        List<String> found = new ArrayList<>();
        boolean isCut = quote.endsWith(CUT);
        String start = isCut ? quote.substring(0, quote.length() - CUT.length()) : quote;
        for (String sentence : sentences) {
            if (isCut ? sentence.startsWith(start) : sentence.equals(quote)) {
                found.add(sentence);
            }
        }
        return found;
    }

    private static boolean isSilent(String sentence) {
        for (String start : SILENT) {
            if (sentence.startsWith(NO_PROMISE + " " + start)) {
                return true;
            }
        }
        return false;
    }
}
