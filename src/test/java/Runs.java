import java.lang.reflect.InvocationTargetException;
import java.lang.reflect.Method;
import java.lang.reflect.Modifier;
import java.util.HashMap;
import java.util.Map;

/**
 * Runs of calls written as the document writes its examples: "step(1) = 1; step(7) = throws
 * IllegalArgumentException". Prints each call whose answer is not the one that is due.
 */
final class Runs {
    /** An object is used for at most so many calls; what later calls answer is free. */
    static final int PROMISED_CALLS = 512;

    private int wrong;
    private int calls;
    /** What can be asked after some calls. */
    private final Map<String, String> untouched = new HashMap<>();

    /** Makes the calls on a new object, and on a new model, so that the judge is judged too. */
    void run(String title, String... lines) {
        go(title, new SlewPlanner(), lines);
        go(title + " (the model)", new Model(), lines);
    }

    /** Makes the calls on an object. */
    void go(String title, Object planner, String... lines) {
        int made = 0;
        for (String call : String.join(";", lines).split(";")) {
            if (!call.isBlank()) {
                int middle = call.indexOf('=');
                String due = call.substring(middle + 1).trim();
                same(title + ": " + call.substring(0, middle).trim(), due,
                        answer(planner, call.substring(0, middle).trim()));
                made++;
            }
        }
        if (made > PROMISED_CALLS) {
            same(title + ", calls of one object", "at most " + PROMISED_CALLS, made);
        }
    }

    /**
     * Makes a call that must throw, twice, after other calls on a new object: all that can be asked
     * then, and all that is remembered, must be as if the call had not been made.
     */
    void refused(String title, String before, String call, String exception) {
        String due = "throws " + exception;
        SlewPlanner planner = new SlewPlanner();
        go(title, planner, before);
        same(title + ": " + call, due, answer(planner, call));
        same(title + ": once more " + call, due, answer(planner, call));
        same(title + ": after " + call, untouched(before), Everything.of(planner));
        Model model = new Model();
        go(title + " (the model)", model, before);
        same(title + " (the model): " + call, due, answer(model, call));
    }

    private String untouched(String before) {
        if (!untouched.containsKey(before)) {
            SlewPlanner planner = new SlewPlanner();
            go("before a refused call", planner, before);
            untouched.put(before, Everything.of(planner));
        }
        return untouched.get(before);
    }

    void same(String what, Object due, Object got) {
        calls++;
        if (!String.valueOf(due).equals(String.valueOf(got))) {
            wrong++;
            System.out.println(what + " answered " + got + ", due is " + due);
        }
    }

    /** Ends the program: with 1 if an answer was wrong, or if there was none at all. */
    void end() {
        System.out.println(calls + " answers, " + wrong + " wrong");
        System.exit(wrong == 0 && calls > 0 ? 0 : 1);
    }

    static String answer(Object planner, String call) {
        int bracket = call.indexOf('(');
        String inside = call.substring(bracket + 1, call.lastIndexOf(')')).trim();
        String[] words = inside.isEmpty() ? new String[0] : inside.split(",");
        return answer(planner, method(planner, call.substring(0, bracket).trim()), words);
    }

    static String answer(Object planner, Method method, String[] words) {
        Object[] arguments = new Object[words.length];
        for (int i = 0; i < words.length; i++) {
            if (method.getParameterTypes()[i] == long.class) {
                arguments[i] = Long.parseLong(words[i].trim());
            } else {
                arguments[i] = Integer.parseInt(words[i].trim());
            }
        }
        try {
            return String.valueOf(method.invoke(planner, arguments));
        } catch (InvocationTargetException e) {
            return "throws " + e.getCause().getClass().getSimpleName();
        } catch (IllegalAccessException e) {
            throw new AssertionError(e);
        }
    }

    static Method method(Object planner, String name) {
        for (Method method : planner.getClass().getDeclaredMethods()) {
            if (method.getName().equals(name)
                    && Modifier.isPublic(method.getModifiers())) {
                return method;
            }
        }
        throw new AssertionError("no method " + name);
    }
}
