import java.lang.reflect.Field;

/**
 * Promise 56, where the answer is false. No call brings an object there, so this test alone looks inside: it bends what
 * an object holds, one thing at a time, and isSound() has to tell. It goes by the names of private fields; whoever holds
 * the state otherwise bends it otherwise here.
 */
public final class SoundInside {
    private static Mapgraph x;
    private static Object map;

    public static void main(String[] args) throws Exception {
        for (String which : new String[] {"left", "right"}) {
            towns(which);
            lines(which);
            lengths(which);
            manyLines(which);
            distances(which, 2);
            distances(which, 98);
            tree(which);
            keys(which);
            oddWalk(which);
            colours(which);
            flow(which);
        }
        bids();
        Check.end();
    }

    /** A square 1-2-3-4 with the line 4-5, of the lengths 10, 11, 12, 13 and 14; directed, it leads round one way. */
    private static void begin(String which, boolean isDirected) throws Exception {
        x = new Mapgraph();
        int number = which.equals("left") ? 0 : 1;
        x.open(number, isDirected);
        x.settle(number, 1, 4, 1);
        x.ring(number, 1, 10, 1);
        x.town(number, 5);
        x.line(number, 4, 5, 14);
        Check.due(which + " is sound at first", x.isSound(), true);
        map = inside(x, which);
    }

    private static void beginTriangle(String which) throws Exception {
        begin(which, false);
        x.line(which.equals("left") ? 0 : 1, 1, 3, 9);
        x.line(which.equals("left") ? 0 : 1, 3, 5, 20);
        Check.due("a triangle is sound", x.isSound(), true);
    }

    private static void tells(String what) {
        Check.due(what + " is sound", x.isSound(), false);
    }

    /** No bound is passed: numbers of 0 to 99, all unlike, at most 60. Nothing else is told of towns without lines. */
    private static void towns(String which) throws Exception {
        int[][] bad = {{0, -1}, {0, 2}, {4, 3}, {4, 4}, {4, 100}};
        for (int[] bend : bad) {
            x = new Mapgraph();
            x.settle(which.equals("left") ? 0 : 1, 1, 5, 1);
            Check.due("five towns are sound", x.isSound(), true);
            heldOf(inside(inside(x, which), "towns"))[bend[0]] = bend[1];
            tells("the town " + bend[1] + " instead of the town " + (bend[0] + 1));
        }
        begin(which, false);
        int[] many = new int[61];
        for (int i = 0; i < many.length; i++) {
            many[i] = i;
        }
        setRow(inside(map, "towns"), many, 60);
        field(map, "isSurveyed").setBoolean(map, false);
        Check.due("60 towns are sound", x.isSound(), true);
        setRow(inside(map, "towns"), many, 61);
        field(map, "isSurveyed").setBoolean(map, false);
        tells("a 61st town");
    }

    /** No bound is passed: lines lead from a town of the map to another one, in a map that is not directed both ways. */
    private static void lines(String which) throws Exception {
        int[][] bad = {{1, 1}, {1, 6}, {6, 1}};
        for (int[] ends : bad) {
            begin(which, true);
            int[] pairs = heldOf(inside(inside(map, "arcs"), "pairs"));
            int place = ends[0] == 6 ? sizeOf(inside(inside(map, "arcs"), "pairs")) - 1 : 0;
            pairs[place] = ends[0] * 100 + ends[1];
            tells("a line from " + ends[0] + " to " + ends[1]);
        }
        begin(which, false);
        heldOf(inside(inside(map, "arcs"), "lengths"))[0] = 11;
        tells("a line with another length on its way back");
    }

    /** No bound is passed: lengths of 0 to 1000000000. */
    private static void lengths(String which) throws Exception {
        int[] bad = {-1, 1000000001};
        for (int length : bad) {
            begin(which, true);
            heldOf(inside(inside(map, "arcs"), "lengths"))[0] = length;
            tells("a length of " + length);
        }
    }

    private static void manyLines(String which) throws Exception {
        begin(which, true);
        int number = which.equals("left") ? 0 : 1;
        x.settle(number, 0, 60, 1);
        for (int leap = 1; leap <= 7; leap++) {
            x.ring(number, leap, 1, 0);
        }
        Check.due("400 lines are sound", x.ofMap(number, 1) == 400 && x.isSound(), true);
        Object pairs = inside(inside(map, "arcs"), "pairs");
        Object lengths = inside(inside(map, "arcs"), "lengths");
        heldOf(pairs)[400] = 59 * 100 + 58;
        setSize(pairs, 401);
        setSize(lengths, 401);
        tells("a 401st line");
    }

    /** A line of length 0 that is found only where all are looked at: neither flow nor cut are changed by it. */
    private static void distances(String which, int to) throws Exception {
        x = new Mapgraph();
        int number = which.equals("left") ? 0 : 1;
        x.open(number, true);
        x.town(number, 1);
        x.settle(number, to, 2, 1);
        x.line(number, 1, to, 0);
        x.line(number, to + 1, 1, 7);
        x.line(number, to + 1, to, 8);
        Check.due("three directed lines are sound", x.isSound(), true);
        map = inside(x, which);
        int[] pairs = heldOf(inside(inside(map, "arcs"), "pairs"));
        int[] lengths = heldOf(inside(inside(map, "arcs"), "lengths"));
        pairs[2] = pairs[0];
        pairs[0] = (to + 1) * 100 + to;
        lengths[2] = 0;
        lengths[0] = 8;
        tells("a distance to " + to + " that a line makes less");
    }

    /** The least tree is that of the lines; only its own lines may be shorter than others of their tree way. */
    private static void tree(String which) throws Exception {
        begin(which, false);
        Object arcs = inside(inside(map, "tree"), "arcs");
        heldOf(inside(arcs, "lengths"))[0] = 13;
        Check.due("a tree line as long as that beside the tree is sound", x.isSound(), true);
        heldOf(inside(arcs, "lengths"))[0] = 14;
        tells("a tree line that is longer than one beside the tree");
        begin(which, false);
        long digest = x.digest();
        setSize(inside(inside(inside(map, "tree"), "arcs"), "pairs"), 7);
        tells("a tree that does not join a part");
        Check.due("digest of what is not sound, alike in all else", x.digest(), digest - 1);
    }

    private static void keys(String which) throws Exception {
        begin(which, false);
        Object keyTowns = inside(inside(map, "depths"), "keyTowns");
        Check.due("the key town", sizeOf(keyTowns) == 1 && heldOf(keyTowns)[0] == 4, true);
        setSize(keyTowns, 0);
        tells("a key town that is not told");
        setRow(keyTowns, new int[] {3, 4}, 2);
        tells("a key town that is none");
        setRow(keyTowns, new int[] {1, 4}, 2);
        tells("the smallest town as a key town, which it is not");
        setRow(keyTowns, new int[] {4}, 1);
        Check.due("as it was, it is sound", x.isSound(), true);
    }

    private static void oddWalk(String which) throws Exception {
        beginTriangle(which);
        Object parts = inside(map, "parts");
        int from = field(parts, "oddFrom").getInt(parts);
        int to = field(parts, "oddTo").getInt(parts);
        Check.due("the ends of the odd walk", from * 100 + to, 203);
        field(parts, "oddTo").setInt(parts, 1);
        tells("an odd walk of an even number of lines");
        field(parts, "oddTo").setInt(parts, 5);
        tells("an odd walk that does not lead back");
        Object fathers = inside(inside(parts, "spread"), "fathers");
        heldOf(fathers)[5] = 1;
        field(parts, "oddFrom").setInt(parts, 5);
        field(parts, "oddTo").setInt(parts, 3);
        tells("an odd walk 5-1-3, though no line is from 5 to 1");
        heldOf(fathers)[5] = 3;
        field(parts, "oddFrom").setInt(parts, -1);
        field(parts, "oddTo").setInt(parts, -1);
        tells("no odd walk where a part is not even");
        field(parts, "oddFrom").setInt(parts, 2);
        field(parts, "oddTo").setInt(parts, 3);
        Check.due("as it was, it is sound", x.isSound(), true);
        field(parts, "oddCount").setInt(parts, 0);
        tells("an odd walk where all parts are even");
    }

    private static void colours(String which) throws Exception {
        begin(which, false);
        Object levels = inside(inside(inside(map, "parts"), "spread"), "levels");
        heldOf(levels)[5] = 4;
        Check.due("another level of the same colour is sound", x.isSound(), true);
        heldOf(levels)[5] = 3;
        tells("a line between two towns of the same colour");
    }

    /** Nothing flows along lines that the plain ones do not know, but the cut has them. */
    private static void flow(String which) throws Exception {
        x = new Mapgraph();
        int number = which.equals("left") ? 0 : 1;
        x.open(number, true);
        x.settle(number, 1, 2, 1);
        x.line(number, 1, 2, 5);
        Check.due("a line of two towns is sound", x.isSound(), true);
        Object joined = inside(inside(x, which), "joined");
        setSize(inside(joined, "pairs"), 0);
        setSize(inside(joined, "lengths"), 0);
        tells("a flow that is less than the cut");
    }

    private static void bids() throws Exception {
        begin("left", false);
        Object numbers = inside(inside(x, "offers"), "numbers");
        int[] many = new int[61];
        setRow(numbers, many, 60);
        Check.due("60 bids are sound", x.isSound(), true);
        setRow(numbers, many, 61);
        tells("a 61st bid");
    }

    private static Field field(Object of, String name) throws Exception {
        Field field = of.getClass().getDeclaredField(name);
        field.setAccessible(true);
        return field;
    }

    private static Object inside(Object of, String name) throws Exception {
        return field(of, name).get(of);
    }

    private static int[] heldOf(Object row) throws Exception {
        return (int[]) inside(row, "held");
    }

    private static int sizeOf(Object row) throws Exception {
        return field(row, "size").getInt(row);
    }

    private static void setSize(Object row, int size) throws Exception {
        field(row, "size").setInt(row, size);
    }

    private static void setRow(Object row, int[] held, int size) throws Exception {
        field(row, "held").set(row, held);
        setSize(row, size);
    }
}
