import java.lang.reflect.Method;
import java.util.Arrays;

/**
 * The bounds of every argument of every promise, as Face tells them. Each argument is put outside its bounds, alone and
 * with all that is refused only after it: the exception that is named first is thrown, and nothing is changed. Then each
 * is put on its bounds, which is not refused.
 */
public final class RefusedBounds {
    private static final String EMPTY = "";
    private static final String ORDINARY = """
            settle(0, 0, 5, 1) = 5
            ring(0, 1, 5, 5) = 5
            open(1, true) = 0
            settle(1, 0, 5, 1) = 5
            fan(1, 0, 9, 1) = 4
            line(1, 3, 0, 0) = -1
            begin(0, 0, false) = 0
            step() = 0
            bid(0, 0, 1) = 0
            bid(1, 0, 2) = 1
            knock() = 1
            """;
    /** Nothing more fits; the row has more than 100 numbers. */
    private static final String WHOLE = Script.FULL + Script.FULL_DIRECTED + """
            60 times bid(0, 0, 1)
            begin(0, 0, true) = 0
            walk(60) = 60
            """;

    public static void main(String[] args) {
        tryAll(Face.ACTS);
        tryAll(Face.ASKS);
        Check.end();
    }

    private static void tryAll(String[] calls) {
        for (String line : calls) {
            refuse("in an empty one", EMPTY, line);
            refuse("in an ordinary one", ORDINARY, line);
            refuse("in a full one", WHOLE, line);
            accept(line);
        }
    }

    private static void refuse(String where, String setup, String line) {
        String[] kinds = line.split(" ");
        Method method = Script.named(Mapgraph.class, kinds[0]);
        Mapgraph x = new Mapgraph();
        Model y = new Model();
        Script.playOn("setup", setup, x, y);
        String before = Check.stateOf(x);
        for (int i = 1; i < kinds.length; i++) {
            for (int bad : outside(kinds[i], setup.isEmpty())) {
                boolean isPlace = kinds[i].equals("map") || kinds[i].equals("town");
                boolean isReached = isPlace || !setup.isEmpty() || !line.contains(" town");
                String due = "throws." + (isPlace || !isReached ? "IndexOutOfBounds" : "IllegalArgument") + "Exception";
                for (boolean isAlone : new boolean[] {true, false}) {
                    Object[] arguments = arguments(method, kinds, i, isAlone);
                    arguments[i - 1] = bad;
                    String told = kinds[0] + Arrays.toString(arguments) + " " + where;
                    Check.due(told, Script.answer(x, method, arguments), due);
                    Check.due(told + " changes nothing", Check.stateOf(x), before);
                }
            }
        }
    }

    /** The other arguments: in their bounds, or with all that is refused only after the argument at this place. */
    private static Object[] arguments(Method method, String[] kinds, int at, boolean isAlone) {
        Object[] arguments = new Object[kinds.length - 1];
        int towns = 0;
        for (int i = 1; i < kinds.length; i++) {
            boolean isBounded = kinds[i].contains("..");
            boolean isBad = !isAlone && (isBounded || kinds[at].equals("map") && kinds[i].equals("town"));
            if (method.getParameterTypes()[i - 1] == boolean.class) {
                arguments[i - 1] = true;
            } else if (kinds[i].equals("town")) {
                arguments[i - 1] = isBad ? 100 : towns;
                towns++;
            } else if (isBounded) {
                arguments[i - 1] = isBad ? Face.bound(kinds[i], 1) + 1 : Face.bound(kinds[i], 0);
            } else {
                arguments[i - 1] = 0;
            }
        }
        return arguments;
    }

    private static int[] outside(String kind, boolean isEmpty) {
        if (kind.equals("map")) {
            return new int[] {-1, 2, Integer.MIN_VALUE, Integer.MAX_VALUE};
        }
        if (kind.equals("town")) {
            return isEmpty ? new int[] {0, 99} : new int[] {-1, 60, 99, 100, Integer.MIN_VALUE, Integer.MAX_VALUE};
        }
        if (kind.equals("any")) {
            return new int[0];
        }
        return new int[] {Face.bound(kind, 0) - 1, Face.bound(kind, 1) + 1, Integer.MIN_VALUE, Integer.MAX_VALUE};
    }

    /** Each time on new ones, as the call may change much. What is due the model tells: no exception. */
    private static void accept(String line) {
        String[] kinds = line.split(" ");
        Method method = Script.named(Mapgraph.class, kinds[0]);
        Method ofModel = Script.named(Model.class, kinds[0]);
        for (int i = 1; i < kinds.length; i++) {
            for (int good : inside(kinds[i])) {
                Object[] arguments = arguments(method, kinds, i, true);
                arguments[i - 1] = good;
                Mapgraph x = new Mapgraph();
                Model y = new Model();
                Script.playOn("setup", ORDINARY, x, y);
                String told = kinds[0] + Arrays.toString(arguments);
                String got = Script.answer(x, method, arguments);
                boolean isRefused = got.startsWith("throws.") && !got.equals("throws.IllegalStateException");
                Check.due(told + " is refused", isRefused, false);
                Check.due(told, got, Script.answer(y, ofModel, arguments));
                Check.due("digest after " + told, x.digest(), y.digest());
            }
        }
    }

    private static int[] inside(String kind) {
        if (kind.equals("map")) {
            return new int[] {0, 1};
        }
        if (kind.equals("town")) {
            return new int[] {2, 4};
        }
        return kind.equals("any") ? new int[0] : new int[] {Face.bound(kind, 0), Face.bound(kind, 1)};
    }
}
