import java.util.ArrayDeque;
import java.util.ArrayList;
import java.util.Collections;
import java.util.Deque;
import java.util.HashMap;
import java.util.HashSet;
import java.util.LinkedHashMap;
import java.util.List;
import java.util.Map;
import java.util.NoSuchElementException;
import java.util.Set;
import java.util.TreeMap;
import java.util.TreeSet;

/**
 * The document's words, taken one by one and with no thought of speed, to hold Mapgraph against.
 * It finds its answers in other ways than the program: by the definitions, and by trying everything out.
 */
public final class Model {
    static final int NONE = -1;

    /** A MAP: each LINE from one town to another; in a map that is not directed each line stands twice. */
    static final class Chart {
        boolean isDirected;
        TreeSet<Integer> towns = new TreeSet<>();
        TreeMap<Integer, TreeMap<Integer, Integer>> lines = new TreeMap<>();

        Integer get(int a, int b) {
            return lines.containsKey(a) ? lines.get(a).get(b) : null;
        }

        void set(int a, int b, int length) {
            lines.computeIfAbsent(a, k -> new TreeMap<>()).put(b, length);
            if (!isDirected) {
                lines.computeIfAbsent(b, k -> new TreeMap<>()).put(a, length);
            }
        }

        void drop(int a, int b) {
            lines.get(a).remove(b);
            if (!isDirected) {
                lines.get(b).remove(a);
            }
        }

        TreeMap<Integer, Integer> from(int a) {
            return lines.getOrDefault(a, new TreeMap<>());
        }

        int count() {
            int many = 0;
            for (TreeMap<Integer, Integer> row : lines.values()) {
                many += row.size();
            }
            return isDirected ? many : many / 2;
        }

        boolean lay(int a, int b, int length) {
            if (get(a, b) == null && count() >= 400) {
                return false;
            }
            set(a, b, length);
            return true;
        }

        /** {a, b, length}, in the ORDER. */
        List<int[]> plain() {
            List<int[]> all = new ArrayList<>();
            for (int a : towns) {
                for (int b : towns) {
                    Integer there = get(a, b);
                    Integer back = get(b, a);
                    if (a < b && (there != null || back != null)) {
                        int length = there == null ? back : back == null ? there : Math.min(there, back);
                        all.add(new int[] {a, b, length});
                    }
                }
            }
            all.sort((x, y) -> x[2] != y[2] ? Integer.compare(x[2], y[2])
                    : x[0] != y[0] ? x[0] - y[0] : x[1] - y[1]);
            return all;
        }

        Chart plainChart() {
            Chart c = new Chart();
            c.towns.addAll(towns);
            for (int[] p : plain()) {
                c.set(p[0], p[1], p[2]);
            }
            return c;
        }
    }

    final Chart[] maps = {new Chart(), new Chart()};
    int walkMap;
    boolean byDepth;
    List<Integer> visited = new ArrayList<>();
    List<Integer> row = new ArrayList<>();
    /** number, FROM, TO, PRICE */
    List<int[]> bids = new ArrayList<>();
    int nextBid;
    int knocked;

    // ---- exceptions

    private Chart chart(int map) {
        if (map < 0 || map > 1) {
            throw new IndexOutOfBoundsException();
        }
        return maps[map];
    }

    private Chart chart(int map, int... towns) {
        Chart c = chart(map);
        for (int t : towns) {
            if (!c.towns.contains(t)) {
                throw new IndexOutOfBoundsException();
            }
        }
        return c;
    }

    private static void wrongUnless(boolean isRight) {
        if (!isRight) {
            throw new IllegalArgumentException();
        }
    }

    private static void stateUnless(boolean isRight) {
        if (!isRight) {
            throw new IllegalStateException();
        }
    }

    private static boolean in(int v, int low, int high) {
        return low <= v && v <= high;
    }

    // ---- towns

    public int open(int map, boolean isDirected) {
        int had = chart(map).towns.size();
        maps[map] = new Chart();
        maps[map].isDirected = isDirected;
        return had;
    }

    public boolean town(int map, int number) {
        Chart c = chart(map);
        wrongUnless(in(number, 0, 99));
        stateUnless(c.towns.contains(number) || c.towns.size() < 60);
        return c.towns.add(number);
    }

    public int settle(int map, int first, int many, int step) {
        Chart c = chart(map);
        wrongUnless(in(first, 0, 99) && in(many, 1, 60) && in(step, 1, 9));
        int founded = 0;
        for (int i = 0; i < many; i++) {
            int number = first + i * step;
            if (number <= 99 && c.towns.size() < 60 && c.towns.add(number)) {
                founded++;
            }
        }
        return founded;
    }

    public int raze(int map, int town) {
        Chart c = chart(map, town);
        int before = c.count();
        c.towns.remove(town);
        c.lines.remove(town);
        for (TreeMap<Integer, Integer> r : c.lines.values()) {
            r.remove(town);
        }
        return before - c.count();
    }

    public int keep(int map) {
        Chart c = chart(map);
        int lost = 0;
        for (int t : new ArrayList<>(c.towns)) {
            if (!maps[1 - map].towns.contains(t)) {
                raze(map, t);
                lost++;
            }
        }
        return lost;
    }

    // ---- lines

    public int line(int map, int from, int to, int length) {
        Chart c = chart(map, from, to);
        wrongUnless(from != to && in(length, 0, 1000000000));
        Integer before = c.get(from, to);
        stateUnless(c.lay(from, to, length));
        return before == null ? NONE : before;
    }

    public int unline(int map, int from, int to) {
        Chart c = chart(map, from, to);
        Integer before = c.get(from, to);
        if (before == null) {
            return NONE;
        }
        c.drop(from, to);
        return before;
    }

    private int series(Chart c, List<int[]> pairs, int length, int more) {
        int laid = 0;
        for (int i = 0; i < pairs.size(); i++) {
            int l = (int) ((length + (long) i * more) % 1000000001L);
            if (c.lay(pairs.get(i)[0], pairs.get(i)[1], l)) {
                laid++;
            }
        }
        return laid;
    }

    public int ring(int map, int leap, int length, int more) {
        Chart c = chart(map);
        wrongUnless(in(leap, 1, 59) && in(length, 0, 1000000000) && in(more, 0, 1000000000));
        stateUnless(c.towns.size() > leap);
        List<Integer> t = new ArrayList<>(c.towns);
        List<int[]> pairs = new ArrayList<>();
        for (int k = 0; k < t.size(); k++) {
            pairs.add(new int[] {t.get(k), t.get((k + leap) % t.size())});
        }
        return series(c, pairs, length, more);
    }

    public int fan(int map, int hub, int length, int more) {
        Chart c = chart(map, hub);
        wrongUnless(in(length, 0, 1000000000) && in(more, 0, 1000000000));
        List<int[]> pairs = new ArrayList<>();
        for (int t : c.towns) {
            if (t != hub) {
                pairs.add(new int[] {hub, t});
            }
        }
        return series(c, pairs, length, more);
    }

    public int lattice(int map, int wide, int length, int more) {
        Chart c = chart(map);
        wrongUnless(in(wide, 1, 20) && in(length, 0, 1000000000) && in(more, 0, 1000000000));
        List<Integer> t = new ArrayList<>(c.towns);
        List<int[]> pairs = new ArrayList<>();
        for (int k = 0; k < t.size(); k++) {
            if (k + 1 < t.size() && (k + 1) % wide != 0) {
                pairs.add(new int[] {t.get(k), t.get(k + 1)});
            }
            if (k + wide < t.size()) {
                pairs.add(new int[] {t.get(k), t.get(k + wide)});
            }
        }
        return series(c, pairs, length, more);
    }

    public int stretch(int map, int town, int by) {
        Chart c = chart(map, town);
        wrongUnless(in(by, -1000000000, 1000000000));
        int changed = 0;
        for (int b : new ArrayList<>(c.from(town).keySet())) {
            int before = c.get(town, b);
            long after = (long) before + by;
            int now = after < 0 ? 0 : after > 1000000000 ? 1000000000 : (int) after;
            c.set(town, b, now);
            if (now != before) {
                changed++;
            }
        }
        return changed;
    }

    public int prune(int map, int town, int low, int high) {
        Chart c = chart(map, town);
        wrongUnless(in(low, 0, 100) && in(high, 0, 100));
        if (low > high) {
            return -7;
        }
        int many = 0;
        for (int b : new ArrayList<>(c.from(town).keySet())) {
            if (b >= low && b < high) {
                c.drop(town, b);
                many++;
            }
        }
        return many;
    }

    public int turn(int map) {
        Chart c = chart(map);
        if (!c.isDirected) {
            return 0;
        }
        Chart d = new Chart();
        d.isDirected = true;
        d.towns.addAll(c.towns);
        for (int a : c.lines.keySet()) {
            for (int b : c.from(a).keySet()) {
                d.set(b, a, c.get(a, b));
            }
        }
        maps[map] = d;
        return d.count();
    }

    public int copy(int map) {
        chart(map);
        Chart o = maps[1 - map];
        Chart d = new Chart();
        d.isDirected = o.isDirected;
        d.towns.addAll(o.towns);
        for (int a : o.lines.keySet()) {
            for (int b : o.from(a).keySet()) {
                d.set(a, b, o.get(a, b));
            }
        }
        maps[map] = d;
        return d.count();
    }

    public int join(int map) {
        Chart c = chart(map);
        Chart o = maps[1 - map];
        for (int t : o.towns) {
            if (c.towns.size() < 60) {
                c.towns.add(t);
            }
        }
        int laid = 0;
        for (int a : o.towns) {
            for (int b : o.from(a).keySet()) {
                if (c.towns.contains(a) && c.towns.contains(b) && c.get(a, b) == null && c.count() < 400) {
                    c.set(a, b, o.get(a, b));
                    laid++;
                }
            }
        }
        return laid;
    }

    // ---- the walk

    public int begin(int map, int town, boolean depth) {
        chart(map, town);
        int before = row.size();
        walkMap = map;
        byDepth = depth;
        visited.clear();
        row.clear();
        row.add(town);
        return before;
    }

    public int step() {
        if (row.isEmpty()) {
            return -9;
        }
        int town = row.remove(byDepth ? row.size() - 1 : 0);
        if (!maps[walkMap].towns.contains(town)) {
            return NONE;
        }
        if (visited.contains(town)) {
            return -2;
        }
        visited.add(town);
        List<Integer> next = new ArrayList<>(maps[walkMap].from(town).keySet());
        if (byDepth) {
            Collections.reverse(next);
        }
        next.removeAll(visited);
        row.addAll(next);
        return town;
    }

    public int walk(int many) {
        wrongUnless(in(many, 1, 60));
        int before = visited.size();
        for (int i = 0; i < many && !row.isEmpty(); i++) {
            step();
        }
        return visited.size() - before;
    }

    public int rowPut(int town, boolean atFront) {
        wrongUnless(in(town, 0, 99));
        stateUnless(row.size() < 100);
        if (!maps[walkMap].towns.contains(town)) {
            return -8;
        }
        row.add(atFront ? 0 : row.size(), town);
        return row.size();
    }

    public int rowTake(boolean atFront) {
        return row.isEmpty() ? -9 : row.remove(atFront ? 0 : row.size() - 1);
    }

    public int rowLook(boolean atFront) {
        return row.isEmpty() ? -9 : row.get(atFront ? 0 : row.size() - 1);
    }

    public boolean rowDrop(int town) {
        wrongUnless(in(town, 0, 99));
        return row.remove(Integer.valueOf(town));
    }

    // ---- the basket

    public int basket(int room) {
        wrongUnless(in(room, -9, 99));
        if (room < 1) {
            return -7;
        }
        int many = bids.size();
        bids.clear();
        return many;
    }

    public int bid(int map, int from, int to) {
        Chart c = chart(map);
        wrongUnless(in(from, 0, 99) && in(to, 0, 99));
        stateUnless(bids.size() < 60);
        Integer price = c.get(from, to);
        if (price == null) {
            return -8;
        }
        bids.add(new int[] {nextBid, from, to, price});
        return nextBid++;
    }

    private List<int[]> sortedBids() {
        List<int[]> all = new ArrayList<>(bids);
        all.sort((x, y) -> x[3] != y[3] ? Integer.compare(x[3], y[3]) : x[0] - y[0]);
        return all;
    }

    public int bidTake() {
        if (bids.isEmpty()) {
            return -9;
        }
        int[] least = sortedBids().get(0);
        bids.remove(least);
        return least[0];
    }

    public boolean bidDrop(int number) {
        return bids.removeIf(b -> b[0] == number);
    }

    public int build(int map) {
        Chart c = chart(map);
        if (bids.isEmpty()) {
            return -9;
        }
        int[] b = sortedBids().get(0);
        bids.remove(b);
        if (!c.towns.contains(b[1]) || !c.towns.contains(b[2])) {
            return -3;
        }
        Integer before = c.get(b[1], b[2]);
        return !c.lay(b[1], b[2], b[3]) ? -3 : before == null ? NONE : before;
    }

    public int knock() {
        return ++knocked;
    }

    // ---- ways: tables of k lines each

    /** The best way of just k lines to each town: the least sum (if sums count), of several the FIRST. */
    private static List<Map<Integer, Object[]>> tables(Chart c, int from, boolean withSums) {
        List<Map<Integer, Object[]>> all = new ArrayList<>();
        Map<Integer, Object[]> now = new HashMap<>();
        now.put(from, new Object[] {0L, List.of(from)});
        all.add(now);
        for (int k = 1; k < c.towns.size(); k++) {
            Map<Integer, Object[]> next = new HashMap<>();
            for (Map.Entry<Integer, Object[]> e : now.entrySet()) {
                for (Map.Entry<Integer, Integer> l : c.from(e.getKey()).entrySet()) {
                    long sum = withSums ? (Long) e.getValue()[0] + l.getValue() : 0L;
                    List<Integer> way = new ArrayList<>(cast(e.getValue()[1]));
                    way.add(l.getKey());
                    Object[] old = next.get(l.getKey());
                    if (old == null || sum < (Long) old[0]
                            || sum == (Long) old[0] && compare(way, cast(old[1])) < 0) {
                        next.put(l.getKey(), new Object[] {sum, way});
                    }
                }
            }
            all.add(next);
            now = next;
        }
        return all;
    }

    @SuppressWarnings("unchecked")
    private static List<Integer> cast(Object o) {
        return (List<Integer>) o;
    }

    private static int compare(List<Integer> x, List<Integer> y) {
        for (int i = 0; i < x.size() && i < y.size(); i++) {
            if (!x.get(i).equals(y.get(i))) {
                return x.get(i) - y.get(i);
            }
        }
        return x.size() - y.size();
    }

    private static List<Integer> fewest(Chart c, int from, int to) {
        for (Map<Integer, Object[]> t : tables(c, from, false)) {
            if (t.containsKey(to)) {
                return cast(t.get(to)[1]);
            }
        }
        return List.of();
    }

    private static Object[] nearest(List<Map<Integer, Object[]>> tables, int to) {
        Object[] best = null;
        for (Map<Integer, Object[]> t : tables) {
            Object[] here = t.get(to);
            if (here != null && (best == null || (Long) here[0] < (Long) best[0])) {
                best = here;
            }
        }
        return best;
    }

    private static Map<Integer, Long> distances(Chart c, int from) {
        List<Map<Integer, Object[]>> t = tables(c, from, true);
        Map<Integer, Long> all = new HashMap<>();
        for (int town : c.towns) {
            Object[] best = nearest(t, town);
            all.put(town, best == null ? -1L : (Long) best[0]);
        }
        return all;
    }

    private static String told(List<Integer> towns) {
        StringBuilder b = new StringBuilder();
        for (int t : towns) {
            b.append(b.length() == 0 ? "" : "-").append(t);
        }
        return b.toString();
    }

    public int hops(int map, int from, int to) {
        return fewest(chart(map, from, to), from, to).size() - 1;
    }

    public String hopWay(int map, int from, int to) {
        return told(fewest(chart(map, from, to), from, to));
    }

    public long near(int map, int from, int to) {
        return distances(chart(map, from, to), from).get(to);
    }

    public String nearWay(int map, int from, int to) {
        Object[] best = nearest(tables(chart(map, from, to), from, true), to);
        return best == null ? "" : told(cast(best[1]));
    }

    private static List<Integer> settledRow(Chart c, int from) {
        Map<Integer, Long> d = distances(c, from);
        List<Integer> in = new ArrayList<>();
        in.add(from);
        while (true) {
            long least = Long.MAX_VALUE;
            int next = NONE;
            for (int v : c.towns) {
                for (int u : in) {
                    Integer l = c.get(u, v);
                    if (!in.contains(v) && l != null && d.get(u) + l < least) {
                        least = d.get(u) + l;
                        next = v;
                    }
                }
            }
            if (next == NONE) {
                return in;
            }
            in.add(next);
        }
    }

    public String settled(int map, int from) {
        return told(settledRow(chart(map, from), from));
    }

    public int into(int map, int from, int to) {
        Chart c = chart(map, from, to);
        Map<Integer, Long> d = distances(c, from);
        if (from == to || d.get(to) < 0) {
            return NONE;
        }
        for (int u : c.towns) {
            Integer l = c.get(u, to);
            if (d.get(u) >= 0 && l != null && d.get(u) + l == d.get(to)) {
                return u;
            }
        }
        throw new NoSuchElementException();
    }

    // ---- parts, trees, depths, colours

    private static Set<Integer> part(Set<Integer> towns, List<int[]> lines, int town) {
        Set<Integer> in = new HashSet<>();
        in.add(town);
        boolean grows = true;
        while (grows) {
            grows = false;
            for (int[] p : lines) {
                if (in.contains(p[0]) != in.contains(p[1]) && towns.contains(p[0]) && towns.contains(p[1])) {
                    in.add(p[0]);
                    in.add(p[1]);
                    grows = true;
                }
            }
        }
        return in;
    }

    private static int parts(Set<Integer> towns, List<int[]> lines) {
        Set<Integer> left = new TreeSet<>(towns);
        int many = 0;
        while (!left.isEmpty()) {
            left.removeAll(part(towns, lines, left.iterator().next()));
            many++;
        }
        return many;
    }

    private static int head(Chart c, int town) {
        return Collections.min(part(c.towns, c.plain(), town));
    }

    private static Map<Integer, Integer> levels(Chart c) {
        Map<Integer, Integer> all = new TreeMap<>();
        Chart p = c.plainChart();
        for (int t : c.towns) {
            if (all.containsKey(t)) {
                continue;
            }
            Deque<Integer> queue = new ArrayDeque<>(List.of(t));
            all.put(t, 0);
            while (!queue.isEmpty()) {
                int u = queue.poll();
                for (int v : p.from(u).keySet()) {
                    if (!all.containsKey(v)) {
                        all.put(v, all.get(u) + 1);
                        queue.add(v);
                    }
                }
            }
        }
        return all;
    }

    /** Colours go from the head on, from neighbour to neighbour, until they clash or all are coloured. */
    private static Map<Integer, Integer> colours(Chart c) {
        Map<Integer, Integer> all = new TreeMap<>();
        List<int[]> plain = c.plain();
        for (int t : c.towns) {
            if (all.containsKey(t)) {
                continue;
            }
            Map<Integer, Integer> here = new TreeMap<>(Map.of(t, 0));
            boolean grows = true;
            boolean clash = false;
            while (grows) {
                grows = false;
                for (int[] p : plain) {
                    Integer x = here.get(p[0]);
                    Integer y = here.get(p[1]);
                    if (x != null && y == null) {
                        here.put(p[1], 1 - x);
                        grows = true;
                    } else if (x == null && y != null) {
                        here.put(p[0], 1 - y);
                        grows = true;
                    } else if (x != null && x.equals(y)) {
                        clash = true;
                    }
                }
            }
            for (int town : here.keySet()) {
                all.put(town, clash ? NONE : here.get(town));
            }
        }
        return all;
    }

    private static List<int[]> tree(Chart c) {
        List<int[]> plain = c.plain();
        List<int[]> all = new ArrayList<>();
        for (int i = 0; i < plain.size(); i++) {
            if (!part(c.towns, plain.subList(0, i), plain.get(i)[0]).contains(plain.get(i)[1])) {
                all.add(plain.get(i));
            }
        }
        return all;
    }

    private static List<Integer> treeRow(List<int[]> tree, int from, int to, int before) {
        if (from == to) {
            return new ArrayList<>(List.of(to));
        }
        for (int[] p : tree) {
            int next = p[0] == from ? p[1] : p[1] == from ? p[0] : NONE;
            if (next != NONE && next != before) {
                List<Integer> rest = treeRow(tree, next, to, from);
                if (!rest.isEmpty()) {
                    rest.add(0, from);
                    return rest;
                }
            }
        }
        return new ArrayList<>();
    }

    /** Number, father: by the words of the DEPTH WALK; a LinkedHashMap keeps the order of coming. */
    private static LinkedHashMap<Integer, Integer> depthWalk(Chart c) {
        LinkedHashMap<Integer, Integer> fathers = new LinkedHashMap<>();
        Chart p = c.plainChart();
        for (int t : c.towns) {
            if (!fathers.containsKey(t)) {
                depthFrom(p, t, NONE, fathers);
            }
        }
        return fathers;
    }

    private static void depthFrom(Chart p, int at, int father, Map<Integer, Integer> fathers) {
        fathers.put(at, father);
        for (int next : p.from(at).keySet()) {
            if (!fathers.containsKey(next)) {
                depthFrom(p, next, at, fathers);
            }
        }
    }

    private static boolean isBelow(Map<Integer, Integer> fathers, int low, int high) {
        for (int at = low; at != NONE; at = fathers.get(at)) {
            if (at == high) {
                return true;
            }
        }
        return false;
    }

    private static int low(Chart c, int town) {
        LinkedHashMap<Integer, Integer> fathers = depthWalk(c);
        List<Integer> order = new ArrayList<>(fathers.keySet());
        int least = Integer.MAX_VALUE;
        Chart p = c.plainChart();
        for (int b : c.towns) {
            if (isBelow(fathers, b, town)) {
                least = Math.min(least, order.indexOf(b));
                for (int w : p.from(b).keySet()) {
                    if (w != fathers.get(b)) {
                        least = Math.min(least, order.indexOf(w));
                    }
                }
            }
        }
        return least;
    }

    private static boolean isKey(Chart c, int town) {
        Set<Integer> others = new TreeSet<>(c.towns);
        others.remove(town);
        return parts(others, c.plain()) > parts(c.towns, c.plain());
    }

    private static List<int[]> keyLines(Chart c) {
        List<int[]> all = new ArrayList<>();
        for (int[] p : c.plain()) {
            List<int[]> others = new ArrayList<>(c.plain());
            others.removeIf(o -> o[0] == p[0] && o[1] == p[1]);
            if (parts(c.towns, others) > parts(c.towns, c.plain())) {
                all.add(p);
            }
        }
        all.sort((x, y) -> x[0] != y[0] ? x[0] - y[0] : x[1] - y[1]);
        return all;
    }

    private static String toldPairs(List<int[]> lines) {
        StringBuilder b = new StringBuilder();
        for (int[] p : lines) {
            b.append(b.length() == 0 ? "" : " ").append(p[0]).append("-").append(p[1]);
        }
        return b.toString();
    }

    private static List<Integer> keyTowns(Chart c) {
        List<Integer> all = new ArrayList<>();
        for (int t : c.towns) {
            if (isKey(c, t)) {
                all.add(t);
            }
        }
        return all;
    }

    public String treeLines(int map) {
        return toldPairs(tree(chart(map)));
    }

    public String treeWay(int map, int from, int to) {
        return told(treeRow(tree(chart(map, from, to)), from, to, NONE));
    }

    public int treeMost(int map, int from, int to) {
        Chart c = chart(map, from, to);
        List<Integer> way = treeRow(tree(c), from, to, NONE);
        Chart p = c.plainChart();
        int most = NONE;
        for (int i = 1; i < way.size(); i++) {
            most = Math.max(most, p.get(way.get(i - 1), way.get(i)));
        }
        return most;
    }

    public String keys(int map, boolean ofLines) {
        Chart c = chart(map);
        return ofLines ? toldPairs(keyLines(c)) : told(keyTowns(c));
    }

    public String odd(int map) {
        Chart c = chart(map);
        Map<Integer, Integer> levels = levels(c);
        int[] best = null;
        for (int[] p : c.plain()) {
            boolean isSame = levels.get(p[0]).equals(levels.get(p[1]));
            if (isSame && (best == null || p[0] < best[0] || p[0] == best[0] && p[1] < best[1])) {
                best = p;
            }
        }
        if (best == null) {
            return "";
        }
        List<Integer> toA = fewest(c.plainChart(), head(c, best[0]), best[0]);
        List<Integer> toB = fewest(c.plainChart(), head(c, best[0]), best[1]);
        int same = 0;
        while (same < toA.size() && same < toB.size() && toA.get(same).equals(toB.get(same))) {
            same++;
        }
        List<Integer> walk = new ArrayList<>();
        for (int i = toA.size() - 1; i >= same - 1; i--) {
            walk.add(toA.get(i));
        }
        walk.addAll(toB.subList(same, toB.size()));
        return told(walk);
    }

    // ---- flows

    /** Of few towns all cuts are tried; of more, whatever still goes through is sent, halving the least amount. */
    private static TreeSet<Integer> leastCut(Chart c, int from, int to) {
        return c.towns.size() <= 11 ? leastOfAllCuts(c, from, to) : cutOfFlow(c, from, to);
    }

    private static TreeSet<Integer> leastOfAllCuts(Chart c, int from, int to) {
        List<Integer> others = new ArrayList<>(c.towns);
        others.remove(Integer.valueOf(from));
        others.remove(Integer.valueOf(to));
        TreeSet<Integer> best = null;
        long least = Long.MAX_VALUE;
        for (int set = 0; set < 1 << others.size(); set++) {
            TreeSet<Integer> in = new TreeSet<>(List.of(from));
            for (int i = 0; i < others.size(); i++) {
                if ((set >> i & 1) == 1) {
                    in.add(others.get(i));
                }
            }
            long sum = cutSum(c, in);
            if (sum < least || sum == least && in.size() < best.size()) {
                least = sum;
                best = in;
            }
        }
        return best;
    }

    private static TreeSet<Integer> cutOfFlow(Chart c, int from, int to) {
        Map<Integer, Map<Integer, Long>> rest = new HashMap<>();
        for (int a : c.towns) {
            rest.put(a, new TreeMap<>());
        }
        for (int a : c.towns) {
            for (Map.Entry<Integer, Integer> l : c.from(a).entrySet()) {
                rest.get(a).merge(l.getKey(), (long) l.getValue(), Long::sum);
                rest.get(l.getKey()).merge(a, 0L, Long::sum);
            }
        }
        for (long atLeast = 1L << 31; atLeast >= 1; atLeast /= 2) {
            while (send(rest, from, to, atLeast, new HashSet<>())) {
                continue;
            }
        }
        TreeSet<Integer> in = new TreeSet<>(List.of(from));
        Deque<Integer> queue = new ArrayDeque<>(in);
        while (!queue.isEmpty()) {
            for (Map.Entry<Integer, Long> e : rest.get(queue.poll()).entrySet()) {
                if (e.getValue() > 0 && in.add(e.getKey())) {
                    queue.add(e.getKey());
                }
            }
        }
        return in;
    }

    private static boolean send(Map<Integer, Map<Integer, Long>> rest, int at, int to, long much, Set<Integer> seen) {
        if (at == to) {
            return true;
        }
        seen.add(at);
        for (int next : rest.get(at).keySet()) {
            if (!seen.contains(next) && rest.get(at).get(next) >= much && send(rest, next, to, much, seen)) {
                rest.get(at).merge(next, -much, Long::sum);
                rest.get(next).merge(at, much, Long::sum);
                return true;
            }
        }
        return false;
    }

    private static long cutSum(Chart c, Set<Integer> in) {
        long sum = 0;
        for (int a : in) {
            for (Map.Entry<Integer, Integer> l : c.from(a).entrySet()) {
                if (!in.contains(l.getKey())) {
                    sum += l.getValue();
                }
            }
        }
        return sum;
    }

    /** The most that flows is the least sum of a cut. */
    public long flow(int map, int from, int to) {
        Chart c = chart(map, from, to);
        wrongUnless(from != to);
        return cutSum(c, leastCut(c, from, to));
    }

    public String cut(int map, int from, int to, boolean ofLines) {
        Chart c = chart(map, from, to);
        wrongUnless(from != to);
        TreeSet<Integer> in = leastCut(c, from, to);
        if (!ofLines) {
            return told(new ArrayList<>(in));
        }
        StringBuilder b = new StringBuilder();
        for (int a : in) {
            for (int z : c.from(a).keySet()) {
                if (!in.contains(z)) {
                    b.append(b.length() == 0 ? "" : " ").append(a).append(">").append(z);
                }
            }
        }
        return b.toString();
    }

    // ---- what is asked

    public int ofMap(int map, int what) {
        Chart c = chart(map);
        wrongUnless(in(what, 0, 10));
        switch (what) {
            case 0: return c.towns.size();
            case 1: return c.count();
            case 2: return c.isDirected ? 1 : 0;
            case 3: return c.towns.isEmpty() ? -9 : c.towns.first();
            case 4: return c.towns.isEmpty() ? -9 : c.towns.last();
            case 5: return c.plain().size();
            case 6: return parts(c.towns, c.plain());
            case 7: {
                Map<Integer, Integer> colours = colours(c);
                int even = 0;
                for (int t : c.towns) {
                    even += head(c, t) == t && colours.get(t) != NONE ? 1 : 0;
                }
                return even;
            }
            case 8: return keyTowns(c).size();
            case 9: return keyLines(c).size();
            default: {
                int most = NONE;
                for (int[] p : tree(c)) {
                    most = Math.max(most, p[2]);
                }
                return most;
            }
        }
    }

    public int ofTown(int map, int town, int what) {
        Chart c = chart(map, town);
        wrongUnless(in(what, 0, 11));
        TreeMap<Integer, Integer> from = c.from(town);
        switch (what) {
            case 0: return from.size();
            case 1: {
                int many = 0;
                for (int a : c.towns) {
                    many += c.get(a, town) != null ? 1 : 0;
                }
                return many;
            }
            case 2: return from.isEmpty() ? -9 : from.firstKey();
            case 3: return from.isEmpty() ? -9 : from.lastKey();
            case 4: return from.isEmpty() ? NONE : Collections.min(from.values());
            case 5: return head(c, town);
            case 6: return levels(c).get(town);
            case 7: return colours(c).get(town);
            case 8: return new ArrayList<>(depthWalk(c).keySet()).indexOf(town);
            case 9: return low(c, town);
            case 10: return depthWalk(c).get(town);
            default: return isKey(c, town) ? 1 : 0;
        }
    }

    public long sums(int map, int what) {
        Chart c = chart(map);
        wrongUnless(in(what, 0, 1));
        long sum = 0;
        if (what == 1) {
            for (int[] p : tree(c)) {
                sum += p[2];
            }
            return sum;
        }
        for (int a : c.towns) {
            for (Map.Entry<Integer, Integer> l : c.from(a).entrySet()) {
                sum += c.isDirected || a < l.getKey() ? l.getValue() : 0;
            }
        }
        return sum;
    }

    public int length(int map, int from, int to) {
        Integer l = chart(map, from, to).get(from, to);
        return l == null ? NONE : l;
    }

    public int beside(int map, int town, int number, int how) {
        Chart c = chart(map, town);
        wrongUnless(in(number, 0, 99) && in(how, 0, 3));
        TreeMap<Integer, Integer> from = c.from(town);
        Integer key = how == 0 ? from.lowerKey(number) : how == 1 ? from.floorKey(number)
                : how == 2 ? from.ceilingKey(number) : from.higherKey(number);
        return key == null ? NONE : key;
    }

    public int window(int map, int town, int low, int high, int what) {
        Chart c = chart(map, town);
        wrongUnless(in(low, 0, 100) && in(high, 0, 100) && in(what, 0, 3));
        if (low > high) {
            return -7;
        }
        TreeMap<Integer, Integer> part = new TreeMap<>(c.from(town).subMap(low, high));
        switch (what) {
            case 0: return part.size();
            case 1: return part.isEmpty() ? -9 : part.firstKey();
            case 2: return part.isEmpty() ? -9 : part.lastKey();
            default: return part.isEmpty() ? NONE : Collections.max(part.values());
        }
    }

    public String lines(int map, int town) {
        StringBuilder b = new StringBuilder();
        for (Map.Entry<Integer, Integer> l : chart(map, town).from(town).entrySet()) {
            b.append(b.length() == 0 ? "" : " ").append(l.getKey()).append(":").append(l.getValue());
        }
        return b.toString();
    }

    public int common(int what) {
        wrongUnless(in(what, 0, 3));
        int towns = 0;
        int pairs = 0;
        int alike = 0;
        for (int a = 0; a < 100; a++) {
            towns += maps[0].towns.contains(a) && maps[1].towns.contains(a) ? 1 : 0;
            for (int b = 0; b < 100; b++) {
                Integer x = maps[0].get(a, b);
                Integer y = maps[1].get(a, b);
                pairs += x != null && y != null ? 1 : 0;
                alike += x != null && x.equals(y) ? 1 : 0;
            }
        }
        if (what < 3) {
            return what == 0 ? towns : what == 1 ? pairs : alike;
        }
        boolean isLike = maps[0].isDirected == maps[1].isDirected && maps[0].towns.equals(maps[1].towns)
                && maps[0].count() == maps[1].count() && sumOfPairs(0) == alike && sumOfPairs(1) == alike;
        return isLike ? 1 : 0;
    }

    private int sumOfPairs(int map) {
        return maps[map].count() * (maps[map].isDirected ? 1 : 2);
    }

    public int ofWalk(int what) {
        wrongUnless(in(what, 0, 5));
        switch (what) {
            case 0: return walkMap;
            case 1: return byDepth ? 1 : 0;
            case 2: return visited.size();
            case 3: return row.size();
            case 4: return visited.isEmpty() ? NONE : visited.get(visited.size() - 1);
            default: {
                Set<Integer> there = new HashSet<>(visited);
                there.retainAll(maps[walkMap].towns);
                return there.size();
            }
        }
    }

    public String visited() {
        return told(visited);
    }

    public String row(boolean atFront) {
        List<Integer> all = new ArrayList<>(row);
        if (!atFront) {
            Collections.reverse(all);
        }
        return told(all.subList(0, Math.min(30, all.size())));
    }

    public int bidLook(int what) {
        wrongUnless(in(what, 0, 3));
        if (bids.isEmpty()) {
            return -9;
        }
        int[] b = sortedBids().get(0);
        return what == 0 ? b[0] : what == 1 ? b[3] : what == 2 ? b[1] : b[2];
    }

    public String bids() {
        StringBuilder s = new StringBuilder();
        for (int[] b : sortedBids()) {
            s.append(s.length() == 0 ? "" : " ").append(b[0]).append(":").append(b[3]);
        }
        return s.toString();
    }

    /** The program's own check of itself: what it says has to be so, if the program is right. */
    public boolean isSound() {
        return true;
    }

    public long digest() {
        long d = 4811;
        for (int map = 0; map < 2; map++) {
            for (int what = 0; what <= 10; what++) {
                d = d * 31 + ofMap(map, what);
            }
            d = d * 31 + sums(map, 0);
            d = d * 31 + sums(map, 1);
            TreeSet<Integer> towns = maps[map].towns;
            Map<Integer, Long> near = towns.isEmpty() ? null : distances(maps[map], towns.first());
            for (int t : towns) {
                for (int what = 0; what <= 11; what++) {
                    d = d * 31 + ofTown(map, t, what);
                }
                d = d * 31 + near.get(t);
                d = d * 31 + lines(map, t).length();
            }
            d = d * 31 + treeLines(map).length();
            d = d * 31 + keys(map, true).length();
            d = d * 31 + keys(map, false).length();
            d = d * 31 + odd(map).length();
            if (!towns.isEmpty()) {
                for (int t : settledRow(maps[map], towns.first())) {
                    d = d * 31 + t;
                }
            }
            if (towns.size() > 1) {
                d = d * 31 + flow(map, towns.first(), towns.last());
                d = d * 31 + cut(map, towns.first(), towns.last(), true).length();
                d = d * 31 + cut(map, towns.first(), towns.last(), false).length();
            }
        }
        for (int what = 0; what <= 3; what++) {
            d = d * 31 + common(what);
        }
        for (int what = 0; what <= 5; what++) {
            d = d * 31 + ofWalk(what);
        }
        for (int t : visited) {
            d = d * 31 + t;
        }
        d = d * 31 + rowLook(true);
        d = d * 31 + rowLook(false);
        d = d * 31 + row(true).length();
        for (int what = 0; what <= 3; what++) {
            d = d * 31 + bidLook(what);
        }
        d = d * 31 + bids.size();
        d = d * 31 + bids().length();
        d = d * 31 + knocked;
        return d * 31 + (isSound() ? 1 : 0);
    }
}
