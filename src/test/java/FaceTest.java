import java.lang.reflect.Constructor;
import java.lang.reflect.Field;
import java.lang.reflect.Method;
import java.lang.reflect.Modifier;
import java.util.ArrayList;
import java.util.Arrays;
import java.util.List;
import java.util.TreeSet;

/** The public face of the document, and what LANGUAGE.md asks of the members of the classes. */
final class FaceTest {
    private static final String I = "IndexOutOfBoundsException";
    private static final String A = "IllegalArgumentException";
    private static final String S = "IllegalStateException";

    private static final String[] FACE = {
        "int coordinate(int,int) " + I,
        "int cellOf(int,int,int)",
        "int neighbour(int,int) " + I + " " + A,
        "int direction(int,int,int) " + I + " " + A,
        "int cone(int) " + I,
        "double cosine(int,int,int) " + I + " " + A,
        "boolean isBright(int,int) " + I + " " + A,
        "int brightCells(int) " + A,
        "int firstBright(int,int) " + I + " " + A,
        "int clock()",
        "int position()",
        "boolean isClosed()",
        "int requestCount()",
        "int setAxis(int,int,int,int) " + I + " " + A + " " + S,
        "int setDrift(int,int,int,int) " + I + " " + A + " " + S,
        "int setCone(int,int) " + I + " " + A + " " + S,
        "int step(int) " + I + " " + A + " " + S,
        "int slew(int) " + I + " " + S,
        "int close() " + S,
        "int open() " + S,
        "int pass(int) " + A + " " + S,
        "int addRequest(int,int,int) " + I + " " + A + " " + S,
        "int removeRequest(int) " + I,
        "int undo() " + S,
        "int arrival(int) " + I + " " + S,
        "int planCell(int,int) " + I + " " + A + " " + S,
        "int reachableCells(int) " + A + " " + S,
        "int parkingCell(int) " + A + " " + S,
        "int parkingSteps(int) " + A + " " + S,
        "int requestFinish(int) " + I + " " + S,
        "int bestValue() " + S,
        "int bestOrder() " + S,
        "int randomWalk(long,int) " + A + " " + S,
        "int save(int) " + I,
        "int restore(int) " + I + " " + S,
    };

    public static void main(String[] arguments) {
        Runs runs = new Runs();
        Class<?> face = SlewPlanner.class;
        runs.same("the class", Modifier.PUBLIC | Modifier.FINAL, face.getModifiers());
        runs.same("the package", "", face.getPackageName());
        runs.same("the methods", new TreeSet<>(Arrays.asList(FACE)), new TreeSet<>(methods(face)));
        constructors(runs, face);
        fields(runs, face);
        TreeSet<String> names = publicNames(face);
        notPublic(runs, face, names);
        runs.same("rule 11, twelve classes", true, face.getDeclaredClasses().length + 1 <= 12);
        for (Class<?> inside : face.getDeclaredClasses()) {
            runs.same("rule 1, " + inside + " is static", true,
                    Modifier.isStatic(inside.getModifiers()));
            runs.same("rule 1, " + inside + " is not public", false,
                    Modifier.isPublic(inside.getModifiers()));
            notPublic(runs, inside, names);
        }
        runs.end();
    }

    private static List<String> methods(Class<?> face) {
        List<String> found = new ArrayList<>();
        for (Method method : face.getDeclaredMethods()) {
            if (!Modifier.isPrivate(method.getModifiers())) {
                List<String> types = new ArrayList<>();
                for (Class<?> type : method.getParameterTypes()) {
                    types.add(type.getSimpleName());
                }
                StringBuilder text = new StringBuilder(method.getReturnType() + " "
                        + method.getName() + "(" + String.join(",", types) + ")");
                for (Class<?> thrown : method.getExceptionTypes()) {
                    text.append(" ").append(thrown.getSimpleName());
                }
                boolean plain = method.getModifiers() == Modifier.PUBLIC;
                found.add(plain ? text.toString() : "not plainly public: " + text);
            }
        }
        return found;
    }

    private static void constructors(Runs runs, Class<?> face) {
        Constructor<?>[] constructors = face.getDeclaredConstructors();
        runs.same("the constructors", 1, constructors.length);
        runs.same("the constructor", "public SlewPlanner()", constructors[0].toString());
    }

    private static void fields(Runs runs, Class<?> face) {
        for (Field field : face.getDeclaredFields()) {
            boolean open = !Modifier.isPrivate(field.getModifiers());
            runs.same("field " + field, open, field.getName().equals("NONE"));
            if (open) {
                runs.same("NONE", "public static final int SlewPlanner.NONE", field.toString());
            }
        }
    }

    private static TreeSet<String> publicNames(Class<?> face) {
        TreeSet<String> names = new TreeSet<>();
        for (Method method : face.getDeclaredMethods()) {
            if (Modifier.isPublic(method.getModifiers())) {
                names.add(method.getName());
            }
        }
        return names;
    }

    private static void notPublic(Runs runs, Class<?> type, TreeSet<String> names) {
        int own = 0;
        for (Field field : type.getDeclaredFields()) {
            int modifiers = field.getModifiers();
            own += Modifier.isStatic(modifiers) ? 0 : 1;
            runs.same("rule 5, static " + field, false,
                    Modifier.isStatic(modifiers) && !Modifier.isFinal(modifiers));
        }
        runs.same("rule 11, fields of " + type, true, own <= 20);
        for (Method method : type.getDeclaredMethods()) {
            if (!Modifier.isPublic(method.getModifiers())) {
                runs.same("rule 1, the name of " + method, false, names.contains(method.getName()));
            }
            runs.same("rule 11, parameters of " + method, true, method.getParameterCount() <= 7);
        }
    }
}
