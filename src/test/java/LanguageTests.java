import java.io.IOException;
import java.lang.reflect.Constructor;
import java.lang.reflect.Field;
import java.lang.reflect.Method;
import java.lang.reflect.Modifier;
import java.nio.file.Files;
import java.nio.file.Path;
import java.util.List;
import java.util.Set;
import java.util.TreeSet;

/** Holds the class against those rules of LANGUAGE.md that can be seen from outside. Argument: the source. */
public final class LanguageTests {
    private static final String FACE = "type setNumber setText setList clear has addItem setItem takeItem moveItem items field item argument"
            + " number filter piece hole row choice loop partial slot block up guard later nodes template extend override check wrong around"
            + " readers make comes refresh length letterAt writerOf changes changeAt changedNode changedKey fault written holeShare"
            + " meanChanges isSound";
    private static final Set<String> FIELD_TYPES = Set.of("int", "long", "boolean", "char", "java.lang.String");
    private static final List<String> RULED_OUT = List.of("->", "::", "catch", "finally", "assert", "synchronized", "instanceof", "@Override",
            "getMessage", "hashCode", "System.out", "Math.random", "nanoTime", "Thread", "import java.util.*", "for (;;)", "while (true)");
    private static final Set<String> IMPORTS = Set.of("java.util.ArrayList", "java.util.Arrays", "java.util.NoSuchElementException");

    private static int passed;
    private static int failed;

    private static void holds(boolean rule, String what) {
        if (rule) {
            passed++;
        } else {
            failed++;
            System.out.println("against the language: " + what);
        }
    }

    private static void face() {
        Set<String> face = new TreeSet<>(List.of(FACE.split(" ")));
        Set<String> found = new TreeSet<>();
        for (Method m : Weftpage.class.getDeclaredMethods()) {
            if (Modifier.isPublic(m.getModifiers())) {
                found.add(m.getName());
            } else {
                holds(Modifier.isPrivate(m.getModifiers()) || m.isSynthetic(), "the visibility of " + m);
                holds(!face.contains(m.getName()), "the name of " + m);
            }
        }
        holds(found.equals(face), "the face is " + found);
        holds(Modifier.isFinal(Weftpage.class.getModifiers()), "the class is not final");
        for (Field f : Weftpage.class.getDeclaredFields()) {
            holds(Modifier.isPrivate(f.getModifiers()), "the visibility of " + f);
        }
    }

    private static void inside(Class<?> c) {
        int own = 0;
        for (Field f : c.getDeclaredFields()) {
            boolean constant = Modifier.isStatic(f.getModifiers());
            own += constant ? 0 : 1;
            holds(!constant || Modifier.isFinal(f.getModifiers()) && FIELD_TYPES.contains(f.getType().getName()), "the constant " + f);
        }
        holds(own <= 20, c + " has " + own + " fields");
        for (Method m : c.getDeclaredMethods()) {
            holds(m.getParameterCount() <= 7, "the parameters of " + m);
            holds(!m.getName().equals("equals") && !m.getName().equals("toString"), "the name of " + m);
        }
        for (Constructor<?> k : c.getDeclaredConstructors()) {
            holds(k.getParameterCount() <= 7, "the parameters of " + k);
        }
    }

    private static void source(Path path) throws IOException {
        List<String> lines = Files.readAllLines(path);
        int begun = 0;
        for (int i = 0; i < lines.size(); i++) {
            String line = lines.get(i);
            if (line.startsWith("import ")) {
                holds(IMPORTS.contains(line.substring(7, line.length() - 1)), line);
            }
            for (String word : RULED_OUT) {
                holds(!line.contains(word), "line " + (i + 1) + " has " + word);
            }
            holds(line.chars().allMatch(c -> c >= 32 && c < 127), "the signs of line " + (i + 1));
            boolean opens = line.matches("( {4}| {8})[a-zA-Z].*\\(.*\\{") && !line.contains(" for (");
            if (opens) {
                begun = i;
            }
            if (line.equals("    }") || line.equals("        }")) {
                holds(i - begun <= 65, "the method of line " + (begun + 1) + " is long");
            }
        }
    }

    public static void main(String[] args) throws IOException {
        face();
        inside(Weftpage.class);
        Class<?>[] classes = Weftpage.class.getDeclaredClasses();
        holds(classes.length <= 12, "there are " + classes.length + " classes inside");
        for (Class<?> c : classes) {
            inside(c);
            holds(Modifier.isPrivate(c.getModifiers()) && Modifier.isStatic(c.getModifiers()), "the visibility of " + c);
        }
        source(Path.of(args[0]));
        System.out.println("LanguageTests: " + passed + " passed, " + failed + " failed");
        if (failed > 0) {
            System.exit(1);
        }
    }
}
