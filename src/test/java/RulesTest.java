import java.io.IOException;
import java.lang.reflect.Field;
import java.lang.reflect.Method;
import java.lang.reflect.Modifier;
import java.nio.file.Files;
import java.nio.file.Path;
import java.util.ArrayList;
import java.util.HashSet;
import java.util.List;
import java.util.Set;
import java.util.regex.Matcher;
import java.util.regex.Pattern;

/** What of the rules of LANGUAGE.md can be looked up in the text of the class and by reflection. */
public final class RulesTest {
    private static final Due D = new Due();
    private static final Path SOURCE = Path.of("src/main/java/UnguessedRound.java");
    private static final Pattern HEAD = Pattern.compile("\\s+(?:public|private) (?:static )?(?:[\\w\\[\\]]+ )?(\\w+)\\((.*)\\) \\{");
    private static final Pattern CALL = Pattern.compile("\\b(\\w+)\\(");
    private static final Pattern FORBIDDEN = Pattern.compile("\\b(import|package|throw|throws|try|catch|finally|synchronized"
        + "|assert|instanceof|enum|record|interface|abstract|extends|implements|System|Thread|String|StringBuilder|equals"
        + "|hashCode|toString|double|float|native|volatile|transient)\\b|->|::|\\w+Exact\\(|Math\\.(?!max\\()");
    private static final int MOST_LINES = 60, MOST_PARAMETERS = 7, MOST_CLASSES = 12, MOST_FIELDS = 20, DEEPEST = 8;

    /** A method or a constructor, from its head to the brace that closes it. */
    private record Body(String name, int parameters, List<String> lines) {}

    private final List<Body> bodies = new ArrayList<>();
    private final Set<String> classes = new HashSet<>();

    public static void main(String[] args) throws IOException {
        RulesTest rules = new RulesTest();
        rules.lookAt(UnguessedRound.class);
        for (Class<?> inside : UnguessedRound.class.getDeclaredClasses()) {
            rules.lookAt(inside);
            D.due(inside + " has classes inside", inside.getDeclaredClasses().length, 0);
        }
        D.due("classes above " + MOST_CLASSES, Math.max(0, rules.classes.size() - MOST_CLASSES), 0);
        String text = Files.readString(SOURCE).replaceAll("(?s)/\\*.*?\\*/", "").replaceAll("//[^\n]*", "");
        rules.read(List.of(text.replaceAll("'.'", "0").split("\n")));
        rules.sizes();
        rules.objectsInConstructorsAlone();
        rules.depths();
        D.end();
    }

    /** Rules 1, 5 and 11. */
    private void lookAt(Class<?> c) {
        classes.add(c.getSimpleName());
        int fields = 0;
        for (Field f : c.getDeclaredFields()) {
            boolean constant = Modifier.isStatic(f.getModifiers());
            fields += constant ? 0 : 1;
            boolean fixed = Modifier.isFinal(f.getModifiers()) && f.getType().isPrimitive();
            D.due(f + " is static state", constant && !fixed ? 1 : 0, 0);
        }
        D.due("fields of " + c + " above " + MOST_FIELDS, Math.max(0, fields - MOST_FIELDS), 0);
        Set<String> face = new HashSet<>();
        for (Method m : UnguessedRound.class.getMethods()) {
            face.add(m.getName());
        }
        for (Method m : c.getDeclaredMethods()) {
            boolean hidden = Modifier.isPrivate(m.getModifiers());
            D.due(m + " bears the name of a public one", hidden && face.contains(m.getName()) ? 1 : 0, 0);
        }
    }

    /** Rules 2, 4, 6 and 13 by words; and where each method ends. */
    private void read(List<String> lines) {
        Body last = null;
        int open = 0;
        for (String line : lines) {
            D.due("a word that may not stand in '" + line + "'", FORBIDDEN.matcher(line).find() ? 1 : 0, 0);
            Matcher head = HEAD.matcher(line);
            if (head.matches()) {
                last = new Body(head.group(1), head.group(2).split(",").length, new ArrayList<>());
                bodies.add(last);
                open = 1;
            } else if (open > 0) {
                last.lines().add(line);
                open += line.replaceAll("[^{]", "").length() - line.replaceAll("[^}]", "").length();
            }
        }
        D.due("methods were found", bodies.size() > 100 ? 1 : 0, 1);
    }

    /** Rule 11. */
    private void sizes() {
        for (Body body : bodies) {
            D.due(body.name() + " is too long", body.lines().size() > MOST_LINES ? 1 : 0, 0);
            D.due(body.name() + " takes too many", body.parameters() > MOST_PARAMETERS ? 1 : 0, 0);
        }
    }

    /** Rule 12, and the room: no call makes an object. */
    private void objectsInConstructorsAlone() {
        for (Body body : bodies) {
            boolean makes = body.lines().stream().anyMatch(line -> line.matches(".*\\bnew\\b.*"));
            D.due(body.name() + " makes an object", makes && !classes.contains(body.name()) ? 1 : 0, 0);
        }
    }

    /** Rules 8 and 11: no recursion, and calls stand eight deep at most (of a name that two have, the deeper one). */
    private void depths() {
        for (Body body : bodies) {
            int depth = depth(body.name(), 1);
            D.due(body.name() + " is " + depth + " calls deep, too many", depth > DEEPEST ? 1 : 0, 0);
        }
    }

    private int depth(String name, int above) {
        int deepest = above;
        for (Body body : bodies) {
            // One level beyond the deepest is told already, so that what calls itself ends there.
            for (String line : body.name().equals(name) && above <= DEEPEST ? body.lines() : List.<String>of()) {
                Matcher call = CALL.matcher(line);
                while (call.find()) {
                    String called = call.group(1);
                    boolean own = bodies.stream().anyMatch(b -> b.name().equals(called)) && !classes.contains(called);
                    deepest = own ? Math.max(deepest, depth(called, above + 1)) : deepest;
                }
            }
        }
        return deepest;
    }
}
