import java.lang.reflect.InvocationTargetException;
import java.lang.reflect.Method;
import java.lang.reflect.Modifier;
import java.util.ArrayList;
import java.util.Arrays;
import java.util.Comparator;
import java.util.List;

/**
 * Long runs of calls on a Mapgraph and on the Model side by side, each answer and each exception compared.
 * The numbers come from a fixed sequence, so each run is the same every time.
 */
public final class ModelRuns {
    private static long seed;
    private static int wrong = 0;
    private static int compared = 0;
    /** Whether the few towns of a run have the greatest numbers instead of the smallest ones. */
    private static boolean isHigh;

    private static int any(int bound) {
        seed = seed * 6364136223846793005L + 1442695040888963407L;
        return (int) ((seed >>> 33) % bound);
    }

    private static final List<Method> CALLS = new ArrayList<>();

    public static void main(String[] args) throws Exception {
        for (Method m : Mapgraph.class.getDeclaredMethods()) {
            if (Modifier.isPublic(m.getModifiers()) && !m.isSynthetic()) {
                CALLS.add(m);
            }
        }
        CALLS.sort(Comparator.comparing(Method::getName));
        if (CALLS.size() != 56) {
            System.out.println("the face has " + CALLS.size() + " methods, due are 56");
            wrong++;
        }
        int runs = args.length > 0 ? Integer.parseInt(args[0]) : 150;
        for (int run = 0; run < runs && wrong < 20; run++) {
            oneRun(run, 2 + run % 5 * 2, run % 3 == 0 ? 3 : 1000000000);
        }
        for (int run = 0; run < runs / 25 && wrong < 20; run++) {
            oneRun(100000 + run, 60, run % 2 == 0 ? 50 : 1000000000);
        }
        System.out.println(compared + " answers compared, " + wrong + " wrong");
        System.exit(wrong == 0 ? 0 : 1);
    }

    private static void oneRun(int run, int towns, int longest) throws Exception {
        seed = 77L + run * 1000003L;
        isHigh = run % 4 == 3;
        Mapgraph x = new Mapgraph();
        Model y = new Model();
        StringBuilder told = new StringBuilder();
        boolean isBig = towns > 20;
        int calls = isBig ? 200 : 300;
        for (int call = 0; call < calls && wrong < 20; call++) {
            Method m = CALLS.get(any(CALLS.size()));
            String name = m.getName();
            boolean isRare = name.equals("open") || name.equals("keep") || name.equals("copy") || name.equals("raze");
            boolean isDear = isBig && (name.equals("digest") || name.equals("isSound"));
            if (any(3) == 0) {
                m = named(any(4) == 0 ? "town" : any(3) == 0 ? "settle" : any(6) == 0 ? "ring" : "line");
            } else if (isRare && any(4) != 0 || isDear && any(8) != 0) {
                m = named("line");
            }
            Object[] a = arguments(m, towns, longest, y);
            compare(run, m, a, x, y, told);
        }
        compare(run, named("digest"), new Object[0], x, y, told);
    }

    private static Method named(String name) {
        for (Method m : CALLS) {
            if (m.getName().equals(name)) {
                return m;
            }
        }
        throw new IllegalStateException(name);
    }

    private static void compare(int run, Method m, Object[] a, Mapgraph x, Model y, StringBuilder told)
            throws Exception {
        Object got = answer(m, x, a);
        Object want = answer(Model.class.getMethod(m.getName(), m.getParameterTypes()), y, a);
        told.append(m.getName()).append(Arrays.toString(a)).append("; ");
        compared++;
        if (!got.equals(want)) {
            wrong++;
            System.out.println("run " + run + ": " + m.getName() + Arrays.toString(a) + " answered " + got
                    + ", due is " + want);
            if (told.length() < 3000) {
                System.out.println("  after " + told);
            }
        }
    }

    private static Object answer(Method m, Object on, Object[] a) throws Exception {
        try {
            return m.invoke(on, a);
        } catch (InvocationTargetException e) {
            return "throws." + e.getCause().getClass().getName();
        }
    }

    private static int number(int towns, Model y) {
        if (any(40) == 0) {
            return any(2) == 0 ? -1 - any(3) : 100 + any(3);
        }
        if (towns > 20) {
            return any(100);
        }
        int number = any(8) == 0 ? 99 - any(2) : any(towns + 2) * 3 % 97;
        return isHigh ? 99 - number : number;
    }

    private static int firstOf(int towns) {
        int first = any(towns) * 3;
        return isHigh ? 99 - first : first;
    }

    private static Object[] arguments(Method m, int towns, int longest, Model y) {
        Class<?>[] types = m.getParameterTypes();
        Object[] a = new Object[types.length];
        for (int i = 0; i < a.length; i++) {
            a[i] = types[i] == boolean.class ? (Object) (any(2) == 0) : (Object) number(towns, y);
        }
        boolean hasMap = a.length > 0 && types[0] == int.class && !isWithoutMap(m.getName());
        if (hasMap) {
            a[0] = any(40) == 0 ? any(2) * 3 - 1 : any(2);
        }
        int many = any(5) == 0 ? -1 : any(7) == 0 ? 1 : any(60) + 1;
        switch (m.getName()) {
            case "settle":
                a[1] = any(20) == 0 ? any(2) * 101 - 1 : towns > 20 ? any(50) : firstOf(towns);
                a[2] = towns > 20 ? many : any(12) == 0 ? any(2) * 61 : any(3) + 1;
                a[3] = any(12) == 0 ? any(2) * 10 : towns > 20 ? 1 + any(3) : 3;
                break;
            case "line":
                a[3] = ofLength(longest);
                break;
            case "ring":
                a[1] = any(12) == 0 ? any(2) * 60 : 1 + any(towns > 20 ? 20 : 4);
                a[2] = ofLength(longest);
                a[3] = ofLength(longest);
                break;
            case "fan":
                a[2] = ofLength(longest);
                a[3] = ofLength(longest);
                break;
            case "lattice":
                a[1] = any(12) == 0 ? any(2) * 21 : 1 + any(towns > 20 ? 20 : 4);
                a[2] = ofLength(longest);
                a[3] = ofLength(longest);
                break;
            case "stretch":
                a[2] = any(20) == 0 ? 1000000001 : any(2) == 0 ? ofLength(longest) : -ofLength(longest);
                break;
            case "prune":
                a[2] = any(20) == 0 ? 101 : any(101);
                a[3] = any(101);
                break;
            case "window":
                a[2] = any(101);
                a[3] = any(20) == 0 ? 101 : any(101);
                a[4] = any(12) == 0 ? any(2) * 5 - 1 : any(4);
                break;
            case "beside":
                a[3] = any(12) == 0 ? any(2) * 5 - 1 : any(4);
                break;
            case "walk":
                a[0] = any(12) == 0 ? any(2) * 61 : any(2) == 0 ? 1 + any(4) : 1 + any(60);
                break;
            case "basket":
                a[0] = any(12) == 0 ? 100 - any(2) * 110 : any(2) == 0 ? -any(10) : any(100);
                break;
            case "bidDrop":
                a[0] = any(20) - 1;
                break;
            case "ofMap":
                a[1] = any(13) - 1;
                break;
            case "ofTown":
                a[2] = any(14) - 1;
                break;
            case "sums":
                a[1] = any(4) - 1;
                break;
            case "common":
            case "bidLook":
                a[0] = any(6) - 1;
                break;
            case "ofWalk":
                a[0] = any(8) - 1;
                break;
            default:
                break;
        }
        return a;
    }

    private static boolean isWithoutMap(String name) {
        return name.startsWith("row") || name.equals("walk") || name.equals("basket") || name.equals("bidDrop")
                || name.equals("common") || name.equals("ofWalk") || name.equals("bidLook");
    }

    private static int ofLength(int longest) {
        int pick = any(20);
        if (pick == 0) {
            return any(2) == 0 ? -1 : 1000000001;
        }
        return pick < 4 ? 0 : pick < 6 ? longest : longest < 100 ? any(longest + 1) : any(longest) + any(2);
    }
}
