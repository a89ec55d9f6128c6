import java.lang.reflect.Method;
import java.util.ArrayList;
import java.util.Arrays;
import java.util.List;

/**
 * What a call leaves as it was. An act changes its own part alone: what is done to a MAP changes neither the other one
 * nor the ROW, what was VISITED or a BID, and the other way round. What is only asked changes nothing.
 */
public final class ApartTests {
    /** Two maps that differ, a walk in map 0 that has begun, three bids, of which the least is no longer its line's. */
    private static final String ORDINARY = """
            settle(0, 0, 5, 1) = 5
            town(0, 8) = true
            ring(0, 1, 5, 5) = 6
            open(1, true) = 0
            settle(1, 0, 5, 1) = 5
            town(1, 9) = true
            fan(1, 0, 9, 1) = 5
            line(1, 3, 0, 0) = -1
            begin(0, 0, false) = 0
            step() = 0
            rowPut(4, false) = 3
            bid(0, 0, 1) = 0
            bid(1, 0, 2) = 1
            bid(0, 3, 2) = 2
            line(0, 0, 1, 6) = 5
            knock() = 1
            """;
    /** The walk is in map 1, by depth, and its row is longer than what row() tells. */
    private static final String MUCH = Script.FULL + Script.FULL_DIRECTED + """
            open(1, true) = 60
            settle(1, 0, 40, 1) = 40
            ring(1, 1, 1000000000, 1) = 40
            ring(1, 7, 0, 77777777) = 40
            60 times bid(0, 0, 1)
            begin(1, 0, true) = 0
            30 times rowPut(7, true)
            walk(9) = 9
            2 times knock()
            """;

    private static final String[] PARTS = {"map 0", "map 1", "walk", "basket", "knocked"};

    /** Each act, and what it changes. */
    private static final String[] ACTS = {
        "open(0, true): map 0", "open(1, false): map 1", "town(0, 70): map 0", "town(1, 70): map 1",
        "settle(0, 3, 9, 2): map 0", "settle(1, 3, 9, 2): map 1", "raze(0, 0): map 0", "raze(1, 0): map 1",
        "raze(0, 4): map 0", "keep(0): map 0", "keep(1): map 1", "line(0, 0, 3, 1): map 0", "line(1, 0, 3, 1): map 1",
        "line(0, 0, 1, 7): map 0", "unline(0, 1, 0): map 0", "unline(1, 0, 2): map 1", "ring(0, 2, 1, 1): map 0",
        "ring(1, 2, 1, 1): map 1", "fan(0, 0, 3, 3): map 0", "fan(1, 0, 3, 3): map 1", "lattice(0, 2, 7, 7): map 0",
        "lattice(1, 2, 7, 7): map 1", "stretch(0, 1, -5): map 0", "stretch(1, 0, 5): map 1",
        "prune(0, 1, 0, 100): map 0", "prune(1, 0, 0, 100): map 1", "turn(0): nothing", "turn(1): map 1",
        "copy(0): map 0", "copy(1): map 1", "join(0): map 0", "join(1): map 1", "begin(0, 0, true): walk",
        "begin(1, 0, false): walk", "step(): walk", "walk(3): walk", "rowPut(3, true): walk", "rowPut(0, false): walk",
        "rowPut(60, false): nothing", "rowTake(true): walk", "rowTake(false): walk", "rowDrop(4): walk",
        "rowDrop(60): nothing", "basket(1): basket", "basket(0): nothing", "bid(0, 2, 3): basket",
        "bid(1, 0, 3): basket", "bid(1, 4, 0): nothing", "bidTake(): basket", "bidDrop(0): basket",
        "bidDrop(2): basket", "bidDrop(3): nothing", "build(0): map 0, basket", "build(1): map 1, basket",
        "knock(): knocked",
    };

    public static void main(String[] args) {
        for (String act : ACTS) {
            actChanges(act.substring(0, act.indexOf(": ")), act.substring(act.indexOf(": ") + 2));
        }
        for (String ask : Face.ASKS) {
            askChangesNothing("ordinary", ORDINARY, ask);
            askChangesNothing("with much", MUCH, ask);
            askChangesNothing("new", "", ask);
        }
        Check.end();
    }

    private static void actChanges(String act, String due) {
        String[] before = partsOf(ORDINARY, "");
        String[] after = partsOf(ORDINARY, act);
        List<String> changed = new ArrayList<>();
        for (int i = 0; i < PARTS.length; i++) {
            if (!before[i].equals(after[i])) {
                changed.add(PARTS[i]);
            }
        }
        Check.due("what " + act + " changes", changed.isEmpty() ? "nothing" : String.join(", ", changed), due);
    }

    private static String[] partsOf(String setup, String act) {
        Mapgraph x = new Mapgraph();
        Script.playOn("setup", setup + act, x, new Model());
        return partsOf(x);
    }

    /** Row, basket and knocks are emptied to tell all of them, so the object is of no use any more. */
    private static String[] partsOf(Mapgraph x) {
        String[] parts = {Check.mapOf(x, 0), Check.mapOf(x, 1), "", "", ""};
        StringBuilder walk = new StringBuilder(x.ofWalk(0) + " " + x.ofWalk(1) + " " + x.visited() + " row ");
        while (x.ofWalk(3) > 0) {
            walk.append(x.rowTake(true)).append(" ");
        }
        parts[2] = walk.toString();
        StringBuilder basket = new StringBuilder(x.bids());
        while (x.bidLook(0) >= 0) {
            basket.append(" ").append(x.bidLook(0)).append(":").append(x.bidLook(1));
            basket.append(" of ").append(x.bidLook(2)).append(">").append(x.bidLook(3));
            x.bidTake();
        }
        x.open(0, true);
        x.settle(0, 0, 2, 1);
        x.line(0, 0, 1, 0);
        basket.append(" next ").append(x.bid(0, 0, 1));
        parts[3] = basket.toString();
        parts[4] = String.valueOf(x.knock());
        return parts;
    }

    private static void askChangesNothing(String when, String setup, String ask) {
        String[] kinds = ask.split(" ");
        Method method = Script.named(Mapgraph.class, kinds[0]);
        Mapgraph x = new Mapgraph();
        Script.playOn("setup", setup, x, new Model());
        String before = Check.stateOf(x);
        for (Object[] arguments : allOf(kinds, method)) {
            String told = kinds[0] + Arrays.toString(arguments) + " (" + when + ")";
            String first = Script.answer(x, method, arguments);
            Check.due(told + " asked again", Script.answer(x, method, arguments), first);
            Check.due(told + " changes the state", !Check.stateOf(x).equals(before), false);
        }
        String[] due = partsOf(setup, "");
        String[] got = partsOf(x);
        for (int i = 0; i < PARTS.length; i++) {
            Check.due(kinds[0] + " (" + when + ") leaves as it was: " + PARTS[i], got[i], due[i]);
        }
    }

    /** All arguments of a call that are put together of some of each kind. */
    private static List<Object[]> allOf(String[] kinds, Method method) {
        List<Object[]> all = new ArrayList<>();
        all.add(new Object[0]);
        for (int i = 1; i < kinds.length; i++) {
            List<Object[]> longer = new ArrayList<>();
            boolean isTruth = method.getParameterTypes()[i - 1] == boolean.class;
            for (Object[] begun : all) {
                for (int some : someOf(kinds[i])) {
                    Object[] more = Arrays.copyOf(begun, i);
                    more[i - 1] = isTruth ? (Object) (some == 1) : (Object) some;
                    longer.add(more);
                }
            }
            all = longer;
        }
        return all;
    }

    private static int[] someOf(String kind) {
        if (kind.equals("map") || kind.equals("any")) {
            return new int[] {0, 1};
        }
        if (kind.equals("town")) {
            return new int[] {0, 3, 60};
        }
        int low = Face.bound(kind, 0);
        int high = Face.bound(kind, 1);
        if (high > 20) {
            return new int[] {low, 4, high};
        }
        int[] each = new int[high - low + 1];
        for (int i = 0; i < each.length; i++) {
            each[i] = low + i;
        }
        return each;
    }
}
