import java.lang.reflect.Constructor;
import java.lang.reflect.Field;
import java.lang.reflect.Member;
import java.lang.reflect.Method;
import java.lang.reflect.Modifier;
import java.util.Arrays;
import java.util.Set;
import java.util.TreeSet;

/** The face of the class: just the constants, the constructor and the methods of the document. */
public final class FaceTest {
    private static final Due due = new Due("FaceTest");

    private static final String[] METHODS = {
        "int addEdge(int, int, int, int, int)", "int removeEdge(int)", "int setEdge(int, int, int)",
        "int edge(int, int)", "int clear()", "int type(int)", "int clearText()", "int fault()", "int load()",
        "int attack(int, boolean)", "int setAttack(int)", "int distance(int, int)", "int first(int, int, int)",
        "int paths(int, int, int)", "int pathLength(int, int, int)", "int tight(int, int)",
        "int interdict(int, int, int)", "int greedy(int, int, int)", "int budgetFor(int, int, int)",
        "int blockade(int, int)", "int respond(int, int, int, int)", "int interdictResponse(int, int, int, int)",
        "int fortify(int, int, int, int)", "int finding()", "int worth(int, int, int)",
        "int neverHelps(int, int, int)", "long expected(int, int, int, int)", "long lost(int, int, int, int)",
        "int undo()", "int count(int)", "long digest()"};

    private FaceTest() {
    }

    public static void main(String[] args) {
        Class<?> face = PathInterdiction.class;
        due.is("the class's modifiers", face.getModifiers(), Modifier.PUBLIC | Modifier.FINAL);
        due.is("BAD", PathInterdiction.BAD, -2);
        due.is("STATE", PathInterdiction.STATE, -3);
        due.is("FULL", PathInterdiction.FULL, -4);
        due.is("NONE", PathInterdiction.NONE, -1);
        due.is("UNREACHABLE", PathInterdiction.UNREACHABLE, 9999);
        due.is("BLOCK", PathInterdiction.BLOCK, 100);
        methods(face);
        fields(face);
        constructors(face);
        due.end();
    }

    private static boolean isOpen(Member member) {
        return !Modifier.isPrivate(member.getModifiers()) && !member.isSynthetic();
    }

    private static void methods(Class<?> face) {
        Set<String> got = new TreeSet<>();
        for (Method method : face.getDeclaredMethods()) {
            if (isOpen(method)) {
                due.is("modifiers of " + method.getName(), method.getModifiers(), Modifier.PUBLIC);
                String types = Arrays.toString(Arrays.stream(method.getParameterTypes()).map(Class::getName).toArray());
                String inside = types.substring(1, types.length() - 1);
                got.add(method.getReturnType().getName() + " " + method.getName() + "(" + inside + ")");
            }
        }
        for (String want : METHODS) {
            due.holds("the face has " + want, got.remove(want));
        }
        due.holds("the face has nothing else, but found " + got, got.isEmpty());
    }

    private static void fields(Class<?> face) {
        Set<String> want = new TreeSet<>(Set.of("BAD", "STATE", "FULL", "NONE", "UNREACHABLE", "BLOCK"));
        for (Field field : face.getDeclaredFields()) {
            if (isOpen(field)) {
                due.is("modifiers of " + field.getName(), field.getModifiers(),
                    Modifier.PUBLIC | Modifier.STATIC | Modifier.FINAL);
                due.holds("type of " + field.getName(), field.getType() == int.class);
                due.holds("the face has the constant " + field.getName(), want.remove(field.getName()));
            }
        }
        due.holds("all constants are there, but for " + want, want.isEmpty());
    }

    private static void constructors(Class<?> face) {
        Constructor<?>[] all = face.getDeclaredConstructors();
        due.is("the constructors", all.length, 1);
        due.is("its parameters", all[0].getParameterCount(), 0);
        due.is("its modifiers", all[0].getModifiers(), Modifier.PUBLIC);
    }
}
