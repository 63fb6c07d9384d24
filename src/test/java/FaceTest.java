import java.lang.reflect.Constructor;
import java.lang.reflect.Field;
import java.lang.reflect.Method;
import java.lang.reflect.Modifier;
import java.nio.file.Files;
import java.nio.file.Path;
import java.util.Set;
import java.util.TreeSet;
import java.util.regex.Matcher;
import java.util.regex.Pattern;

/** The public face as the document has it, and the rules of LANGUAGE.md that can be seen from outside. */
public final class FaceTest {
    private static final Due due = new Due();

    public static void main(String[] args) throws Exception {
        Class<?> main = BoltsByOrder.class;
        due.holds("the class is public and final", (main.getModifiers() & (Modifier.PUBLIC | Modifier.FINAL))
            == (Modifier.PUBLIC | Modifier.FINAL));
        face(main);
        insides(main);
        words();
        due.end();
    }

    private static void face(Class<?> main) throws Exception {
        Set<String> asked = new TreeSet<>();
        String doc = Files.readString(Path.of("../shared/DOC.md"));
        String block = doc.substring(doc.indexOf("```java"), doc.indexOf("## Terms"));
        Matcher line = Pattern.compile("public (int|long) (\\w+)\\((.*?)\\);").matcher(block);
        while (line.find()) {
            asked.add(line.group(1) + " " + line.group(2) + "(" + line.group(3).replaceAll(" \\w+(,|$)", "$1") + ")");
        }
        due.is("methods of the document", asked.size(), 43);
        Set<String> has = new TreeSet<>();
        Set<String> names = new TreeSet<>();
        for (Method m : main.getDeclaredMethods()) {
            if (Modifier.isPublic(m.getModifiers())) {
                StringBuilder types = new StringBuilder();
                for (Class<?> t : m.getParameterTypes()) {
                    types.append(types.length() == 0 ? "" : ", ").append(t.getName());
                }
                has.add(m.getReturnType().getName() + " " + m.getName() + "(" + types + ")");
                names.add(m.getName());
            }
        }
        due.holds("the face is " + asked + ", not " + has, asked.equals(has));
        hidden(main, names);
        for (Class<?> inner : main.getDeclaredClasses()) {
            hidden(inner, names);
        }
        Constructor<?>[] made = main.getDeclaredConstructors();
        due.is("constructors", made.length, 1);
        due.is("its parameters", made[0].getParameterCount(), 0);
    }

    private static void hidden(Class<?> c, Set<String> publicNames) {
        for (Method m : c.getDeclaredMethods()) {
            boolean isFace = c == BoltsByOrder.class && Modifier.isPublic(m.getModifiers());
            due.holds(c + " hides " + m, isFace || !publicNames.contains(m.getName()));
            if (c == BoltsByOrder.class) {
                due.holds("no other than public and private: " + m, isFace || Modifier.isPrivate(m.getModifiers()));
            }
            due.holds("at most seven parameters: " + m, m.getParameterCount() <= 7);
        }
    }

    private static void insides(Class<?> main) {
        for (Field f : main.getDeclaredFields()) {
            due.holds("private: " + f, Modifier.isPrivate(f.getModifiers()));
        }
        due.holds("at most twelve classes", main.getDeclaredClasses().length < 12);
        for (Class<?> inner : main.getDeclaredClasses()) {
            due.holds("static: " + inner, Modifier.isStatic(inner.getModifiers()));
            due.holds("hidden: " + inner, !Modifier.isPublic(inner.getModifiers()) && !Modifier.isProtected(inner.getModifiers()));
            finals(inner);
        }
        finals(main);
    }

    private static void finals(Class<?> c) {
        int own = 0;
        for (Field f : c.getDeclaredFields()) {
            boolean isStatic = Modifier.isStatic(f.getModifiers());
            due.holds("static fields are final: " + f, !isStatic || Modifier.isFinal(f.getModifiers()));
            own += isStatic ? 0 : 1;
        }
        due.holds("some twenty fields: " + c, own <= 20);
    }

    private static void words() throws Exception {
        String source = Files.readString(Path.of("src/main/java/BoltsByOrder.java"));
        String code = source.replaceAll("(?s)/\\*.*?\\*/", "").replaceAll("//[^\n]*", "").replaceAll("\"[^\"\n]*\"", "\"\"");
        String[] ruledOut = {"throw", "throws", "try", "catch", "synchronized", "assert", "import", "package", "protected",
            "instanceof", "var", "yield", "Object", "System\\.(?!arraycopy)", "Math\\.\\w*Exact", "->", "::", "@"};
        for (String word : ruledOut) {
            String asked = Character.isLetter(word.charAt(0)) ? "\\b" + word + (word.endsWith(")") ? "" : "\\b") : word;
            due.holds("no " + word, !Pattern.compile(asked).matcher(code).find());
        }
        int last = 0;
        int lines = 0;
        for (String line : code.split("\n")) {
            boolean opens = line.matches("( {4}| {8})(public|private|static|void|int|boolean|Rod|[A-Z]\\w*\\()[^;=]*\\) \\{");
            lines = opens ? 0 : lines + 1;
            if (line.equals("    }") || line.equals("        }")) {
                last = Math.max(last, lines);
            }
        }
        due.holds("methods stay short", last > 0 && last <= 60);
    }
}
