import java.io.IOException;
import java.lang.reflect.Constructor;
import java.lang.reflect.Field;
import java.lang.reflect.Method;
import java.lang.reflect.Modifier;
import java.nio.file.Files;
import java.nio.file.Path;
import java.util.ArrayList;
import java.util.List;
import java.util.Set;
import java.util.TreeSet;
import java.util.regex.Matcher;
import java.util.regex.Pattern;

/** The face, and those rules of LANGUAGE.md that can be seen in the source. It is run from the project's root. */
public final class LanguageTest {
    private static final String FACE = """
        int best(int, int)
        int claim(int, int, int)
        int copy(int, int)
        int dusk(int)
        int fault()
        int feed(int, long)
        int forget()
        int goBack(int)
        int grant(int)
        int judge()
        int keep(int)
        int knows(int, int, int)
        int library()
        int life(int, int, int)
        int line(int, int)
        int note(int)
        int page(int, int)
        int read(int, int)
        int reader(int, int)
        int reading(int, int)
        int request(int, int, int)
        int right(int)
        int run(int)
        int seed(int)
        int span(int, int, int)
        int teach(int, int, int)
        int tear()
        int toKnow(int, int)
        int told(int)
        int whence(int, int)
        int where(int)
        int write(int, int)
        """;

    public static void main(String[] args) throws IOException {
        face();
        nested();
        words(Files.readString(Path.of("src/main/java/DimBooks.java")));
        Check.finish("LanguageTest");
    }

    private static void face() {
        Class<?> type = DimBooks.class;
        Check.due("public and final", type.getModifiers(), Modifier.PUBLIC | Modifier.FINAL);
        Set<String> open = new TreeSet<>();
        Set<String> openNames = new TreeSet<>();
        List<Method> hidden = new ArrayList<>();
        for (Method m : type.getDeclaredMethods()) {
            if (Modifier.isPrivate(m.getModifiers())) {
                hidden.add(m);
                continue;
            }
            Check.due("public: " + m, m.getModifiers(), Modifier.PUBLIC);
            open.add(m.toString().replace("public ", "").replace("DimBooks.", "").replace(",", ", "));
            openNames.add(m.getName());
        }
        Check.same("the methods", String.join("\n", open) + "\n", FACE);
        for (Method m : hidden) {
            Check.due("a private method with a public one's name: " + m, openNames.contains(m.getName()) ? 1 : 0, 0);
        }
        Check.due("constructors", type.getDeclaredConstructors().length, 1);
        for (Constructor<?> c : type.getDeclaredConstructors()) {
            Check.due("a public one", c.getModifiers(), Modifier.PUBLIC);
            Check.due("without parameters", c.getParameterCount(), 0);
        }
        Set<String> constants = new TreeSet<>();
        for (Field f : type.getDeclaredFields()) {
            if (!Modifier.isPrivate(f.getModifiers())) {
                constants.add(f.getName());
            }
        }
        Check.same("the constants", constants.toString(), "[FULL, NONE, NOT, OUTSIDE, UNKNOWN]");
        Check.due("NONE", DimBooks.NONE, -1);
        Check.due("UNKNOWN", DimBooks.UNKNOWN, -1000000001);
        Check.due("OUTSIDE", DimBooks.OUTSIDE, -1000000002);
        Check.due("NOT", DimBooks.NOT, -1000000003);
        Check.due("FULL", DimBooks.FULL, -1000000004);
    }

    private static void nested() {
        Class<?>[] inside = DimBooks.class.getDeclaredClasses();
        Check.due("at most twelve classes", inside.length <= 11 ? 1 : 0, 1);
        for (Class<?> c : inside) {
            Check.due("static: " + c, Modifier.isStatic(c.getModifiers()) ? 1 : 0, 1);
            Check.due("not public: " + c, Modifier.isPublic(c.getModifiers()) || Modifier.isProtected(c.getModifiers()) ? 1 : 0, 0);
            int fields = 0;
            for (Field f : c.getDeclaredFields()) {
                fields += Modifier.isStatic(f.getModifiers()) ? 0 : 1;
            }
            Check.due("at most twenty fields: " + c, fields <= 20 ? 1 : 0, 1);
            for (Method m : c.getDeclaredMethods()) {
                Check.due("at most seven parameters: " + m, m.getParameterCount() <= 7 ? 1 : 0, 1);
            }
        }
    }

    private static void words(String source) {
        String[] ruledOut = {"\\bthrow\\b", "\\btry\\b", "\\bcatch\\b", "\\bsynchronized\\b", "\\bassert\\b", "->", "::",
            "\\bpackage\\b", "\\w+Exact\\b", "\\bhashCode\\b", "\\btoString\\b", "\\bRandom\\b", "nanoTime", "currentTimeMillis",
            "\\bstatic \\{"};
        String code = source.replaceAll("(?s)/\\*.*?\\*/", "").replaceAll("//.*", "");
        for (String word : ruledOut) {
            Check.due("ruled out: " + word, Pattern.compile(word).matcher(code).find() ? 1 : 0, 0);
        }
        for (Matcher m = Pattern.compile("import (.*);").matcher(code); m.find();) {
            Check.same("an import", m.group(1), "java.util.Arrays");
        }
        // What is made in a call is counted for the whole run, so all is made in constructors.
        boolean inConstructor = false;
        for (String row : code.split("\n")) {
            inConstructor = row.startsWith("    public DimBooks()") || inConstructor && !row.startsWith("    }");
            boolean field = row.matches("        (private )?final \\w+(\\[\\])? \\w+ = new .*;");
            boolean made = row.contains(" new ") && !inConstructor && !field;
            Check.due("made outside a constructor: " + row.trim(), made ? 1 : 0, 0);
        }
    }
}
