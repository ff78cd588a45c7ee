import java.io.IOException;
import java.lang.reflect.Method;
import java.lang.reflect.Modifier;
import java.nio.file.Files;
import java.nio.file.Path;
import java.util.Set;
import java.util.TreeSet;
import java.util.regex.Matcher;
import java.util.regex.Pattern;

/** The calls of README.md, one behind the other on one object, each with the answer that stands behind it. */
public final class ReadmeTest {
    private static final Due D = new Due();
    private static final Pattern LINE = Pattern.compile("((?:x\\.\\w+\\([^)]*\\);\\s*)+)// ([^:]*)(?::.*)?");
    private static final Pattern CALL = Pattern.compile("x\\.(\\w+)\\(([^)]*)\\);");

    private final UnguessedRound x = new UnguessedRound();
    private final Set<String> missing = new TreeSet<>();
    private int calls = 0;

    public static void main(String[] args) throws IOException, ReflectiveOperationException {
        ReadmeTest readme = new ReadmeTest();
        for (Method method : UnguessedRound.class.getDeclaredMethods()) {
            if (Modifier.isPublic(method.getModifiers())) {
                readme.missing.add(method.getName());
            }
        }
        readme.read();
        D.due("methods without a call in README.md: " + readme.missing, readme.missing.size(), 0);
        D.due("calls above 512", Math.max(0, readme.calls - 512), 0);
        D.end();
    }

    private void read() throws IOException, ReflectiveOperationException {
        for (String line : Files.readAllLines(Path.of("README.md"))) {
            Matcher told = LINE.matcher(line);
            if (told.matches()) {
                make(told.group(1), told.group(2).split(","));
            } else {
                D.due("'" + line + "' has no answer", line.startsWith("x.") ? 1 : 0, 0);
            }
        }
    }

    private void make(String row, String[] answers) throws ReflectiveOperationException {
        Matcher call = CALL.matcher(row);
        int at = 0;
        while (call.find()) {
            D.due(call.group() + " has an answer", at < answers.length ? 1 : 0, 1);
            D.due(call.group(), answer(call.group(1), call.group(2)), number(answers[Math.min(at, answers.length - 1)]));
            at++;
        }
        D.due("answers behind " + row, answers.length, at);
    }

    private long answer(String name, String told) throws ReflectiveOperationException {
        String[] words = told.isEmpty() ? new String[0] : told.split(",");
        Class<?>[] types = new Class<?>[words.length];
        Object[] numbers = new Object[words.length];
        for (int i = 0; i < words.length; i++) {
            types[i] = int.class;
            numbers[i] = (int) number(words[i]);
        }
        missing.remove(name);
        calls++;
        return ((Number) UnguessedRound.class.getMethod(name, types).invoke(x, numbers)).longValue();
    }

    /** A number as README.md writes it: a figure, a sign between ' and ', or one of three names. */
    private static long number(String word) {
        String told = word.trim();
        switch (told) {
            case "UnguessedRound.NONE": return UnguessedRound.NONE;
            case "Integer.MIN_VALUE": return Integer.MIN_VALUE;
            case "Long.MIN_VALUE + 2": return Long.MIN_VALUE + 2;
            default: return told.startsWith("'") ? told.charAt(1) : Long.parseLong(told);
        }
    }
}
