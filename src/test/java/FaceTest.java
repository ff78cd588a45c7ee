import java.lang.reflect.Field;
import java.lang.reflect.Method;
import java.lang.reflect.Modifier;
import java.util.Arrays;
import java.util.Set;
import java.util.TreeSet;

/** The public face: all that the document tells, and nothing else that can be seen from outside. */
public final class FaceTest {
    private static final Due D = new Due();
    private static final String FACE = "int type(int) int wipe() int fault() int worth(int,int) int way(int,int,int) "
        + "int set(int,int) int read(int) int night(int,int) int at(int,int) int when(int,int) int alone(int,int,int) "
        + "int steals(int,int,int) long next(int,int,int,int) long likely(int,int) int fresh(int) "
        + "int breaks(int,int,int,int) int seen(int,int,int,int,int) long least(int,int,int) int lamp(int,int,int,int) "
        + "int learn(int,int,int,int) long dice(int,int,int) int seeds(int) int sheet(int,int,int) int lose(int) "
        + "int put(int,int,int,int) int get(int,int,int) int copy(int,int,int,int,int) int write(int,int) "
        + "int count(int) long digest()";

    public static void main(String[] args) {
        Class<?> face = UnguessedRound.class;
        D.due("public and final", face.getModifiers(), Modifier.PUBLIC | Modifier.FINAL);
        D.due("constructors", face.getDeclaredConstructors().length, 1);
        D.due("public constructors", face.getConstructors().length, 1);
        methods(face);
        fields(face);
        for (Class<?> inside : face.getDeclaredClasses()) {
            D.due(inside.getName() + " is static", inside.getModifiers() & Modifier.STATIC, Modifier.STATIC);
        }
        D.end();
    }

    private static void methods(Class<?> face) {
        Set<String> due = new TreeSet<>(Arrays.asList(FACE.replace(") ", ")\n").split("\n")));
        Set<String> names = new TreeSet<>();
        for (String method : due) {
            names.add(method.substring(method.indexOf(' ') + 1, method.indexOf('(')));
        }
        for (Method m : face.getDeclaredMethods()) {
            StringBuilder told = new StringBuilder(m.getReturnType() + " " + m.getName() + "(");
            for (Class<?> type : m.getParameterTypes()) {
                told.append(told.charAt(told.length() - 1) == '(' ? "" : ",").append(type);
            }
            boolean inFace = m.getModifiers() == Modifier.PUBLIC && due.remove(told + ")");
            boolean hidden = Modifier.isPrivate(m.getModifiers()) && !names.contains(m.getName());
            D.due(m + " is in the face or hidden", inFace || hidden ? 1 : 0, 1);
        }
        D.due("methods that are missing: " + due, due.size(), 0);
    }

    private static void fields(Class<?> face) {
        Set<String> due = new TreeSet<>(Arrays.asList("NONE", "BAD", "NOT", "FULL"));
        int constant = Modifier.PUBLIC | Modifier.STATIC | Modifier.FINAL;
        for (Field f : face.getDeclaredFields()) {
            boolean inFace = f.getModifiers() == constant && due.remove(f.getName());
            D.due(f + " is in the face or hidden", inFace || Modifier.isPrivate(f.getModifiers()) ? 1 : 0, 1);
        }
        D.due("constants that are missing: " + due, due.size(), 0);
    }
}
