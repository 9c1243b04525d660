import java.io.IOException;
import java.lang.reflect.Executable;
import java.lang.reflect.Field;
import java.lang.reflect.Method;
import java.lang.reflect.Modifier;
import java.nio.file.Files;
import java.nio.file.Path;
import java.util.ArrayList;
import java.util.Arrays;
import java.util.List;
import java.util.Set;
import java.util.TreeSet;
import java.util.regex.Matcher;
import java.util.regex.Pattern;

/** Some of the rules of LANGUAGE.md that a program can look at. */
final class LanguageTest {
    private static final String[] FORBIDDEN = {"->", "::", "\\bfinally\\b", "\\bassert\\b", "\\bsynchronized\\b",
        "\\bcatch\\b", "\\btry\\b", "\\bSystem\\b", "\\bRandom\\b", "\\bThread\\b", "\\w+Exact\\b",
        "static \\{", "\\.toString\\(", "\\.hashCode\\(", "\\.getClass\\(", "\\bMath\\.(sqrt|pow|floor|ceil|round)\\(",
        "\\bvar\\b", "\\bvolatile\\b", "\\bprotected\\b", "\\bObject\\b", "\" \\+", "\\+ \"", "\"[^\"]*\\\\"};
    private static final String FACE = "gauge part face hole faces flatAt width height area outline reliefs faults "
            + "hasFault spaceAt isMet tools limits force strikes cost bendAt orders tool toolOf hits flatTime pressTime "
            + "stock sheets size stocks line fits nest took waste measure setting ends late price nestedShare "
            + "meanAddition checksum isSound";

    private LanguageTest() {
    }

    static void run(String file) throws IOException {
        List<String> lines = Files.readAllLines(Path.of(file));
        signs(lines);
        methodLengths(lines);
        face();
        List<Class<?>> classes = new ArrayList<>(Arrays.asList(BendTable.class.getDeclaredClasses()));
        Check.due("rule 11: classes", classes.size() + 1 <= 12);
        classes.add(BendTable.class);
        for (Class<?> c : classes) {
            inside(c);
        }
    }

    private static void signs(List<String> lines) {
        for (int i = 0; i < lines.size(); i++) {
            String line = lines.get(i);
            String code = line.contains("//") || line.trim().startsWith("*") || line.trim().startsWith("/*") ? "" : line;
            Check.due("signs in line " + (i + 1), line.chars().allMatch(sign -> sign > 0 && sign < 128));
            if (line.startsWith("import ")) {
                Check.due("rule 4: " + line, line.equals("import java.util.ArrayList;")
                        || line.equals("import java.util.NoSuchElementException;"));
            }
            for (String forbidden : FORBIDDEN) {
                Matcher found = Pattern.compile(forbidden).matcher(code);
                Check.due("line " + (i + 1) + " has " + forbidden, found.find(), false);
            }
        }
    }

    private static void methodLengths(List<String> lines) {
        Pattern start = Pattern.compile("^(    |        )(?! )[^=;]*\\(.*|^(    |        )(?! )throws.*");
        int from = -1;
        for (int i = 0; i < lines.size(); i++) {
            String line = lines.get(i);
            if (start.matcher(line).matches() && line.endsWith("{")) {
                from = i;
            }
            if (from >= 0 && (line.equals("    }") || line.equals("        }"))) {
                Check.due("rule 11: the method at line " + (from + 1), i - from <= 60);
                from = -1;
            }
        }
    }

    private static void face() {
        Set<String> open = new TreeSet<>();
        Set<String> closed = new TreeSet<>();
        for (Method m : BendTable.class.getDeclaredMethods()) {
            Check.due("rule 1: " + m, Modifier.isPublic(m.getModifiers()) || Modifier.isPrivate(m.getModifiers()));
            (Modifier.isPublic(m.getModifiers()) ? open : closed).add(m.getName());
        }
        Check.due("rule 1: the face", open, new TreeSet<>(Arrays.asList(FACE.split(" "))));
        closed.retainAll(open);
        Check.due("rule 1: private ones with names of public ones", closed, new TreeSet<String>());
        Check.due("rule 1: one constructor", BendTable.class.getDeclaredConstructors().length, 1);
        Check.due("rule 1: public and final", BendTable.class.getModifiers(), Modifier.PUBLIC | Modifier.FINAL);
        for (Field f : BendTable.class.getDeclaredFields()) {
            Check.due("rule 1: " + f, Modifier.isPrivate(f.getModifiers()));
        }
    }

    private static void inside(Class<?> c) {
        int own = 0;
        for (Field f : c.getDeclaredFields()) {
            boolean isStatic = Modifier.isStatic(f.getModifiers());
            own += isStatic ? 0 : 1;
            Check.due("rule 5: " + f, !isStatic || (Modifier.isFinal(f.getModifiers()) && f.getType() == int.class));
        }
        Check.due("rule 11: fields of " + c, own <= 20);
        List<Executable> all = new ArrayList<>(Arrays.asList(c.getDeclaredMethods()));
        all.addAll(Arrays.asList(c.getDeclaredConstructors()));
        for (Executable e : all) {
            Check.due("rule 11: " + e, e.getParameterCount() <= 7);
        }
        Check.due("rule 1: " + c, c == BendTable.class || (Modifier.isStatic(c.getModifiers())
                && !Modifier.isPublic(c.getModifiers())));
    }
}
