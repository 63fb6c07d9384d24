import java.io.IOException;
import java.lang.reflect.InvocationTargetException;
import java.lang.reflect.Method;
import java.nio.file.Files;
import java.nio.file.Path;
import java.util.ArrayList;
import java.util.Comparator;
import java.util.List;

/**
 * Runs the tests of boundary cases: one method for each sentence of the document that names one. A test whose
 * sentence isn't the document's fails, and so does a sentence of a promise that no test is for.
 */
final class Edges {
    private static final int PROMISES = 44;
    private final Due due = new Due();
    private final List<Method> tests = new ArrayList<>();

    private Edges() {
    }

    /** All tests of the classes, which have those of the promises first to last. */
    static void run(int first, int last, Class<?>... owners) throws IOException, IllegalAccessException {
        Edges edges = new Edges();
        for (Class<?> owner : owners) {
            edges.takeFrom(owner);
        }
        edges.tests.sort(Comparator.comparing((Method m) -> sentence(m).of()).thenComparing(Method::getName));
        for (Method m : edges.tests) {
            edges.runOne(m, first, last);
        }
        for (int promise = first; promise <= last; promise++) {
            edges.lookForUntested(promise);
        }
        System.out.println(edges.tests.size() + " tests of boundary cases");
        edges.due.end();
    }

    private void takeFrom(Class<?> owner) {
        for (Method m : owner.getDeclaredMethods()) {
            if (m.isAnnotationPresent(Sentence.class)) {
                tests.add(m);
            }
        }
    }

    private static Sentence sentence(Method m) {
        return m.getAnnotation(Sentence.class);
    }

    private void runOne(Method m, int first, int last) throws IOException, IllegalAccessException {
        int promise = sentence(m).of();
        String says = sentence(m).says();
        due.sentence(promise, says);
        due.holds(m.getName() + " stands in its own class", promise >= first && promise <= last);
        due.holds(m.getName() + " is for a sentence of the document", !says.isEmpty() && section(promise).contains(says));
        int asked = due.asked();
        try {
            m.invoke(null, due);
        } catch (InvocationTargetException e) {
            due.holds(m.getName() + " threw " + e.getCause(), false);
        }
        due.holds(m.getName() + " compares answers", due.asked() > asked);
    }

    private void lookForUntested(int promise) throws IOException {
        for (String told : section(promise).split("(?<=[^.]\\.\\)?) (?=[A-Z(`])")) {
            boolean isTested = false;
            for (Method m : tests) {
                String says = sentence(m).says();
                isTested |= sentence(m).of() == promise && (told.contains(says) || says.contains(told));
            }
            due.sentence(promise, told);
            due.holds("a test is for this sentence", isTested);
        }
    }

    /** What the document says of a promise, behind its heading and the call's own line. */
    private static String section(int promise) throws IOException {
        String doc = Files.readString(Path.of("../shared/DOC.md"));
        if (promise == Sentence.TERMS) {
            String terms = between(doc, "## Terms\n", "\nAhead of the calls");
            return terms.replaceAll("```(text)?", " ").replaceAll("(?m)^\\d\\. ", "").replaceAll("\\s+", " ").trim();
        }
        String next = promise == PROMISES ? "## Not promised" : "## Promise " + (promise + 1) + ":";
        String whole = between(doc, "## Promise " + promise + ":", next);
        return whole.substring(whole.indexOf("`: ") + 3).replaceAll("\\s+", " ").trim();
    }

    private static String between(String text, String from, String to) {
        int start = text.indexOf(from) + from.length();
        return text.substring(start, text.indexOf(to, start));
    }
}
