import java.io.IOException;
import java.lang.reflect.Method;
import java.lang.reflect.Modifier;
import java.nio.file.Files;
import java.nio.file.Path;
import java.util.ArrayList;
import java.util.HashMap;
import java.util.List;
import java.util.Map;
import java.util.Set;
import java.util.TreeSet;
import java.util.regex.Matcher;
import java.util.regex.Pattern;
import java.util.stream.Stream;

/** What README.md says is so: its examples answer as they say, its tables leave out no call and no test. */
public final class ReadmeTest {
    private static final Pattern MADE = Pattern.compile("BoltsByOrder plain = new BoltsByOrder\\(\\);");
    private static final Pattern CALL =
        Pattern.compile("(?:(?:int|long) (\\w+) = )?plain\\.(\\w+)\\((.*?)\\); +// (-?\\d+)(?:: .*)?");
    private static final Due due = new Due();

    public static void main(String[] args) throws Exception {
        String readme = Files.readString(Path.of("README.md"));
        int blocks = 0;
        Matcher block = Pattern.compile("(?s)```java\n(.*?)```").matcher(readme);
        while (block.find()) {
            play(block.group(1));
            blocks++;
        }
        due.holds("README.md has examples", blocks > 0);
        findings(readme);
        calls(readme);
        tests(readme);
        due.end();
    }

    private static void play(String block) throws ReflectiveOperationException {
        BoltsByOrder plain = null;
        Map<String, Long> names = new HashMap<>();
        for (String line : block.split("\n")) {
            Matcher call = CALL.matcher(line);
            if (MADE.matcher(line).matches()) {
                plain = new BoltsByOrder();
            } else if (plain != null && call.matches()) {
                long got = ask(plain, call.group(2), call.group(3), names);
                due.is("README.md: " + line, got, Long.parseLong(call.group(4)));
                if (call.group(1) != null) {
                    names.put(call.group(1), got);
                }
            } else {
                due.holds("README.md: a line that is a call with its answer: " + line, false);
            }
        }
    }

    private static long ask(BoltsByOrder plain, String name, String with, Map<String, Long> names)
            throws ReflectiveOperationException {
        String[] told = with.isEmpty() ? new String[0] : with.split(", ");
        for (Method m : publicCalls()) {
            if (m.getName().equals(name) && m.getParameterCount() == told.length) {
                Object[] values = new Object[told.length];
                for (int i = 0; i < told.length; i++) {
                    long v = names.containsKey(told[i]) ? names.get(told[i]) : Long.decode(told[i].replaceAll("L$", ""));
                    values[i] = m.getParameterTypes()[i] == long.class ? (Object) v : (Object) (int) v;
                }
                return ((Number) m.invoke(plain, values)).longValue();
            }
        }
        due.holds("README.md: the class has " + name + "(" + with + ")", false);
        return 0;
    }

    private static List<Method> publicCalls() {
        List<Method> calls = new ArrayList<>();
        for (Method m : BoltsByOrder.class.getDeclaredMethods()) {
            if (Modifier.isPublic(m.getModifiers())) {
                calls.add(m);
            }
        }
        return calls;
    }

    /** The document's own list of findings, a row of the table each. */
    private static void findings(String readme) throws IOException {
        String doc = Files.readString(Path.of("../shared/DOC.md"));
        Matcher told = Pattern.compile("(-10000000\\d\\d) ([A-Z]+)").matcher(doc);
        int rows = 0;
        while (told.find()) {
            due.holds("README.md has " + told.group(), readme.contains("| " + told.group(1) + " | " + told.group(2) + " |"));
            rows++;
        }
        due.is("findings of the document", rows, 7);
        // These two answer what was there before, which may be any number, also one of a finding.
        BoltsByOrder x = new BoltsByOrder();
        x.seed(Due.BEYOND);
        due.answers(x, "seed(1)", () -> x.seed(1), Due.BEYOND);
        x.sheet(0, 64, 1);
        x.write(0, 0, Due.FULL);
        due.answers(x, "write(0, 0, 0)", () -> x.write(0, 0, 0), Due.FULL);
        due.holds("README.md says that these two aren't told by it", readme.contains("`seed()` and `write()`"));
    }

    private static void calls(String readme) {
        Set<String> has = new TreeSet<>();
        String part = readme.replaceAll("(?s)^.*\n## Calls\n|\n## Tests\n.*$", "");
        Matcher cell = Pattern.compile("(?m)^\\| `(\\w+)\\(([\\w, ]*)\\)` \\|").matcher(part);
        while (cell.find()) {
            int with = cell.group(2).isEmpty() ? 0 : cell.group(2).split(", ").length;
            has.add(cell.group(1) + " " + with);
        }
        Set<String> asked = new TreeSet<>();
        for (Method m : publicCalls()) {
            asked.add(m.getName() + " " + m.getParameterCount());
        }
        due.holds("README.md tells the calls " + asked + ", not " + has, asked.equals(has));
    }

    private static void tests(String readme) throws IOException {
        Set<String> told = new TreeSet<>();
        Matcher row = Pattern.compile("(?m)^\\| (\\w+Test)\\b.*").matcher(readme);
        while (row.find()) {
            told.add(row.group(1));
        }
        Set<String> has = new TreeSet<>();
        try (Stream<Path> files = Files.list(Path.of("src/test/java"))) {
            for (Path file : (Iterable<Path>) files::iterator) {
                String name = file.getFileName().toString();
                if (name.endsWith("Test.java")) {
                    has.add(name.substring(0, name.length() - ".java".length()));
                }
            }
        }
        due.holds("README.md tells the tests " + has + ", not " + told, told.equals(has));
    }
}
