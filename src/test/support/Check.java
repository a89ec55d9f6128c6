/** Compares answers with those that are due, and counts the wrong ones. */
public final class Check {
    /** A call of which an exception may come. */
    public interface Call {
        void make();
    }

    private static final Class<? extends Exception> INDEX = IndexOutOfBoundsException.class;
    private static final Class<? extends Exception> ARGUMENT = IllegalArgumentException.class;
    private static final Class<? extends Exception> STATE = IllegalStateException.class;

    private static int wrong = 0;

    private Check() {
    }

    public static void due(String call, long got, long want) {
        if (got != want) {
            tell(call, Long.toString(got), Long.toString(want));
        }
    }

    public static void due(String call, boolean got, boolean want) {
        if (got != want) {
            tell(call, Boolean.toString(got), Boolean.toString(want));
        }
    }

    public static void due(String call, String got, String want) {
        if (!want.equals(got)) {
            tell(call, got, want);
        }
    }

    public static void noIndex(Mapgraph x, String call, Call c) {
        fails(x, call, INDEX, c);
    }

    public static void noArgument(Mapgraph x, String call, Call c) {
        fails(x, call, ARGUMENT, c);
    }

    public static void noState(Mapgraph x, String call, Call c) {
        fails(x, call, STATE, c);
    }

    /** The very class is due, not one below it; and nothing may have changed. */
    private static void fails(Mapgraph x, String call, Class<? extends Exception> want, Call c) {
        String before = stateOf(x);
        String got = "no exception";
        try {
            c.make();
        } catch (RuntimeException e) {
            got = e.getClass().getName();
        }
        if (!want.getName().equals(got)) {
            tell(call, got, want.getName());
        }
        due(call + " changes nothing", stateOf(x), before);
    }

    /** All that can be asked of the object, in one text. */
    public static String stateOf(Mapgraph x) {
        StringBuilder all = new StringBuilder();
        all.append(x.digest());
        for (int map = 0; map < 2; map++) {
            all.append(mapOf(x, map));
        }
        all.append(" walk ").append(x.visited()).append(" row ").append(x.row(true)).append("|").append(x.row(false));
        return all.append(" bids ").append(x.bids()).toString();
    }

    /** One MAP in one text: whether it is directed, then each town with its lines. */
    public static String mapOf(Mapgraph x, int map) {
        StringBuilder all = new StringBuilder(x.ofMap(map, 2) == 1 ? "directed" : "both");
        for (int town = 0; town < 100; town++) {
            if (isTown(x, map, town)) {
                all.append(" ").append(town).append("(").append(x.lines(map, town)).append(")");
            }
        }
        return all.toString();
    }

    private static boolean isTown(Mapgraph x, int map, int town) {
        try {
            x.lines(map, town);
            return true;
        } catch (IndexOutOfBoundsException e) {
            return false;
        }
    }

    private static void tell(String call, String got, String want) {
        wrong++;
        System.out.println(call + " answered " + got + ", due is " + want);
    }

    public static void end() {
        if (wrong > 0) {
            System.out.println(wrong + " wrong");
            System.exit(1);
        }
    }
}
