import java.lang.reflect.InvocationTargetException;
import java.lang.reflect.Method;

/**
 * Plays runs of calls that are told as text, each on a new Mapgraph and on a new Model. A line is a call, or a call with
 * the answer that is due:
 *
 *     settle(0, 1, 4, 1) = 4
 *     12 times bid(0, 1, 2)
 *     town(0, 100) = throws.IllegalArgumentException
 *
 * A call without an answer may answer anything but an exception. One that throws, or tells EMPTY, VOID or WRONG, may
 * not change anything.
 */
public final class Script {
    /** Map 0, not directed: towns 0 to 59, 400 lines; from 40 on none to the seventh town behind. */
    public static final String FULL = """
            settle(0, 0, 60, 1) = 60
            ring(0, 1, 1, 0) = 60
            ring(0, 2, 2, 0) = 60
            ring(0, 3, 3, 0) = 60
            ring(0, 4, 4, 0) = 60
            ring(0, 5, 5, 0) = 60
            ring(0, 6, 6, 0) = 60
            ring(0, 7, 7, 0) = 40
            """;
    /** The like on map 1, directed: each line leads from a town to one of the next seven. */
    public static final String FULL_DIRECTED = "open(1, true) = 0\n" + FULL.replace("(0, ", "(1, ");

    /** Map 0 has the towns 1 and 2 and a line between them, map 1 the town 3. */
    public static final String TWO_TOWNS = """
            settle(0, 1, 2, 1) = 2
            line(0, 1, 2, 5) = -1
            town(1, 3) = true
            """;

    private Script() {
    }

    public static void play(String title, String lines) {
        playOn(title, lines, new Mapgraph(), new Model());
    }

    /** Of a call that takes a map and two towns of it: no such map, no town from, no town to. */
    public static void playWithoutPlaces(String title, String call) {
        String places = """
                (2, 1, 2)
                (-1, 1, 2)
                (1, 1, 2)
                (0, 0, 2)
                (0, 3, 2)
                (0, 1, 0)
                (0, 1, 3)
                (0, 3, 3)
                (0, -1, 2)
                (0, 1, 100)
                """;
        play(title, TWO_TOWNS + places.replace("(", call + "(").replace(")", ") = throws.IndexOutOfBoundsException"));
    }

    /** On two that are alike. */
    public static void playOn(String title, String lines, Mapgraph x, Model y) {
        for (String line : lines.split("\n")) {
            if (!line.isBlank()) {
                playLine(title, line.strip(), x, y);
            }
        }
    }

    private static void playLine(String title, String line, Mapgraph x, Model y) {
        int sign = line.indexOf(" = ");
        String due = sign < 0 ? null : line.substring(sign + 3);
        String call = sign < 0 ? line : line.substring(0, sign);
        int times = 1;
        if (call.contains(" times ")) {
            times = Integer.parseInt(call.substring(0, call.indexOf(" times ")));
            call = call.substring(call.indexOf(" times ") + 7);
        }
        for (int k = 0; k < times; k++) {
            playCall(title + ": " + call, call, due, x, y);
        }
    }

    private static void playCall(String told, String call, String due, Mapgraph x, Model y) {
        boolean comesToNothing = due != null && (due.startsWith("throws.") || due.matches("-[789]"));
        String before = comesToNothing ? Check.stateOf(x) : "";
        String got = answer(x, call);
        String ofModel = answer(y, call);
        if (due != null) {
            Check.due(told, got, due);
        } else if (got.startsWith("throws.")) {
            Check.due(told, got, "no exception");
        }
        Check.due(told + " (by the model)", ofModel, got);
        if (comesToNothing) {
            Check.due(told + " changes nothing", Check.stateOf(x), before);
        }
    }

    /** A text stands in quotes, an exception's name behind "throws.". */
    private static String answer(Object on, String call) {
        int open = call.indexOf('(');
        Method method = named(on.getClass(), call.substring(0, open));
        String inside = call.substring(open + 1, call.length() - 1);
        String[] told = inside.isEmpty() ? new String[0] : inside.split(", ");
        if (told.length != method.getParameterCount()) {
            throw new IllegalStateException("not so many arguments: " + call);
        }
        Object[] arguments = new Object[told.length];
        for (int i = 0; i < told.length; i++) {
            boolean isTruth = method.getParameterTypes()[i] == boolean.class;
            arguments[i] = isTruth ? (Object) told[i].equals("true") : (Object) Integer.valueOf(told[i]);
        }
        return answer(on, method, arguments);
    }

    public static String answer(Object on, Method method, Object[] arguments) {
        try {
            Object got = method.invoke(on, arguments);
            return got instanceof String ? "\"" + got + "\"" : String.valueOf(got);
        } catch (InvocationTargetException e) {
            return "throws." + e.getCause().getClass().getSimpleName();
        } catch (IllegalAccessException e) {
            throw new IllegalStateException(e);
        }
    }

    public static Method named(Class<?> in, String name) {
        for (Method method : in.getMethods()) {
            if (method.getName().equals(name) && method.getDeclaringClass() == in) {
                return method;
            }
        }
        throw new IllegalStateException("there is no " + name);
    }
}
