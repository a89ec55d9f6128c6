import java.util.Arrays;

/**
 * Two maps with towns and lines between them, a walk with its row, and a basket of bids.
 * Every row is made once, with the object, and used again by each call: a call makes nothing but its text.
 */
public final class Mapgraph {
    private static final int NONE = -1;
    private static final int WAS_VISITED = -2;
    private static final int NOT_BUILT = -3;
    private static final int WRONG = -7;
    private static final int VOID = -8;
    private static final int EMPTY = -9;

    private static final int NUMBERS = 100;
    private static final int MOST_TOWNS = 60;
    private static final int MOST_LINES = 400;
    private static final int MOST_ARCS = 800;
    private static final int MOST_LENGTH = 1000000000;
    private static final int MOST_BIDS = 60;
    private static final int MOST_PUT = 100;
    private static final int MOST_TOLD = 30;
    /** Each of the 100 numbers is VISITED once at most after a beginning, and puts 59 at most behind 100. */
    private static final int MOST_IN_ROW = 6000;
    private static final long SERIES_MODULUS = 1000000001L;

    private final Chart left;
    private final Chart right;
    private final Walker walker;
    private final Offers offers;
    private final Spread spread;
    private final Nearest nearest;
    private final Pipes pipes;
    private final Arcs chosen;
    private final Numbers found;
    private final StringBuilder text;
    private int knocks;

    public Mapgraph() {
        left = new Chart();
        right = new Chart();
        walker = new Walker();
        offers = new Offers();
        spread = new Spread();
        nearest = new Nearest();
        pipes = new Pipes();
        chosen = new Arcs(MOST_ARCS);
        found = new Numbers(2 * NUMBERS, 2 * NUMBERS);
        text = new StringBuilder();
        knocks = 0;
    }

    // ---- towns

    public int open(int map, boolean isDirected) throws IndexOutOfBoundsException {
        Chart chart = chartOf(map);
        int had = chart.towns().size();
        chart.beginAnew(isDirected);
        return had;
    }

    public boolean town(int map, int number)
            throws IndexOutOfBoundsException, IllegalArgumentException, IllegalStateException {
        Chart chart = chartOf(map);
        demand(number, 0, NUMBERS - 1);
        if (chart.has(number)) {
            return false;
        }
        if (!chart.hasRoomForTown()) {
            throw new IllegalStateException("there are 60 towns");
        }
        return chart.found(number);
    }

    public int settle(int map, int first, int many, int step)
            throws IndexOutOfBoundsException, IllegalArgumentException {
        Chart chart = chartOf(map);
        demand(first, 0, NUMBERS - 1);
        demand(many, 1, MOST_TOWNS);
        demand(step, 1, 9);
        int founded = 0;
        for (int k = 0; k < many; k++) {
            if (chart.found(first + k * step)) {
                founded++;
            }
        }
        return founded;
    }

    public int raze(int map, int town) throws IndexOutOfBoundsException {
        return chartWith(map, town).lose(town);
    }

    public int keep(int map) throws IndexOutOfBoundsException {
        Chart chart = chartOf(map);
        Chart other = otherThan(map);
        int lost = 0;
        for (int i = chart.towns().size() - 1; i >= 0; i--) {
            int town = chart.towns().get(i);
            if (!other.has(town)) {
                chart.lose(town);
                lost++;
            }
        }
        return lost;
    }

    // ---- lines

    public int line(int map, int from, int to, int length)
            throws IndexOutOfBoundsException, IllegalArgumentException, IllegalStateException {
        Chart chart = chartWithBoth(map, from, to);
        if (from == to) {
            throw new IllegalArgumentException("a line leads to another town");
        }
        demand(length, 0, MOST_LENGTH);
        if (!chart.fits(from, to)) {
            throw new IllegalStateException("there are 400 lines");
        }
        int before = chart.arcs().lengthOf(from, to);
        chart.lay(from, to, length);
        return before;
    }

    public int unline(int map, int from, int to) throws IndexOutOfBoundsException {
        Chart chart = chartWithBoth(map, from, to);
        int before = chart.arcs().lengthOf(from, to);
        chart.takeAway(from, to);
        return before;
    }

    public int ring(int map, int leap, int length, int more)
            throws IndexOutOfBoundsException, IllegalArgumentException, IllegalStateException {
        Chart chart = chartOf(map);
        demand(leap, 1, MOST_TOWNS - 1);
        demand(length, 0, MOST_LENGTH);
        demand(more, 0, MOST_LENGTH);
        Numbers towns = chart.towns();
        int n = towns.size();
        if (n <= leap) {
            throw new IllegalStateException("there are no more towns than the leap");
        }
        int laid = 0;
        for (int k = 0; k < n; k++) {
            int end = k + leap < n ? k + leap : k + leap - n;
            if (chart.lay(towns.get(k), towns.get(end), seriesLength(length, more, k))) {
                laid++;
            }
        }
        return laid;
    }

    public int fan(int map, int hub, int length, int more)
            throws IndexOutOfBoundsException, IllegalArgumentException {
        Chart chart = chartWith(map, hub);
        demand(length, 0, MOST_LENGTH);
        demand(more, 0, MOST_LENGTH);
        int laid = 0;
        int count = 0;
        for (int i = 0; i < chart.towns().size(); i++) {
            int town = chart.towns().get(i);
            if (town != hub) {
                if (chart.lay(hub, town, seriesLength(length, more, count))) {
                    laid++;
                }
                count++;
            }
        }
        return laid;
    }

    public int lattice(int map, int wide, int length, int more)
            throws IndexOutOfBoundsException, IllegalArgumentException {
        Chart chart = chartOf(map);
        demand(wide, 1, 20);
        demand(length, 0, MOST_LENGTH);
        demand(more, 0, MOST_LENGTH);
        Numbers towns = chart.towns();
        int n = towns.size();
        int laid = 0;
        int count = 0;
        int column = 0;
        for (int k = 0; k < n; k++) {
            column = column + 1 < wide ? column + 1 : 0;
            if (k + 1 < n && column != 0) {
                if (chart.lay(towns.get(k), towns.get(k + 1), seriesLength(length, more, count))) {
                    laid++;
                }
                count++;
            }
            if (k + wide < n) {
                if (chart.lay(towns.get(k), towns.get(k + wide), seriesLength(length, more, count))) {
                    laid++;
                }
                count++;
            }
        }
        return laid;
    }

    public int stretch(int map, int town, int by) throws IndexOutOfBoundsException, IllegalArgumentException {
        Chart chart = chartWith(map, town);
        demand(by, -MOST_LENGTH, MOST_LENGTH);
        Arcs arcs = chart.arcs();
        int changed = 0;
        int past = arcs.first(town, NUMBERS);
        for (int place = arcs.first(town, 0); place < past; place++) {
            int before = arcs.lengthAt(place);
            int after = Math.max(0, Math.min(MOST_LENGTH, before + by));
            if (after != before) {
                chart.lay(town, arcs.to(place), after);
                changed++;
            }
        }
        return changed;
    }

    public int prune(int map, int town, int low, int high)
            throws IndexOutOfBoundsException, IllegalArgumentException {
        Chart chart = chartWith(map, town);
        demand(low, 0, NUMBERS);
        demand(high, 0, NUMBERS);
        if (low > high) {
            return WRONG;
        }
        int taken = 0;
        for (int to = low; to < high; to++) {
            if (chart.takeAway(town, to)) {
                taken++;
            }
        }
        return taken;
    }

    public int turn(int map) throws IndexOutOfBoundsException {
        Chart chart = chartOf(map);
        if (!chart.isDirected()) {
            return 0;
        }
        chart.turnRound(chosen);
        return chart.lineCount();
    }

    public int copy(int map) throws IndexOutOfBoundsException {
        Chart chart = chartOf(map);
        chart.takeOver(otherThan(map));
        return chart.lineCount();
    }

    public int join(int map) throws IndexOutOfBoundsException {
        Chart chart = chartOf(map);
        Chart other = otherThan(map);
        for (int i = 0; i < other.towns().size(); i++) {
            chart.found(other.towns().get(i));
        }
        Arcs arcs = other.arcs();
        int laid = 0;
        for (int place = 0; place < arcs.size(); place++) {
            int from = arcs.from(place);
            int to = arcs.to(place);
            boolean isLacking = chart.has(from) && chart.has(to) && chart.arcs().lengthOf(from, to) == NONE;
            if (isLacking && chart.lay(from, to, arcs.lengthAt(place))) {
                laid++;
            }
        }
        return laid;
    }

    // ---- the walk

    public int begin(int map, int town, boolean byDepth) throws IndexOutOfBoundsException {
        chartWith(map, town);
        int before = walker.waiting().size();
        walker.beginAt(map, town, byDepth);
        return before;
    }

    public int step() {
        return walker.goOn(chartOfWalk());
    }

    public int walk(int many) throws IllegalArgumentException {
        demand(many, 1, MOST_TOWNS);
        Chart chart = chartOfWalk();
        int newly = 0;
        for (int k = 0; k < many && walker.waiting().size() > 0; k++) {
            if (walker.goOn(chart) >= 0) {
                newly++;
            }
        }
        return newly;
    }

    public int rowPut(int town, boolean atFront) throws IllegalArgumentException, IllegalStateException {
        demand(town, 0, NUMBERS - 1);
        Numbers row = walker.waiting();
        if (row.size() >= MOST_PUT) {
            throw new IllegalStateException("there are 100 numbers in the row");
        }
        if (!chartOfWalk().has(town)) {
            return VOID;
        }
        row.insert(atFront ? 0 : row.size(), town);
        return row.size();
    }

    public int rowTake(boolean atFront) {
        Numbers row = walker.waiting();
        if (row.size() == 0) {
            return EMPTY;
        }
        return row.removeAt(atFront ? 0 : row.size() - 1);
    }

    public int rowLook(boolean atFront) {
        Numbers row = walker.waiting();
        if (row.size() == 0) {
            return EMPTY;
        }
        return row.get(atFront ? 0 : row.size() - 1);
    }

    public boolean rowDrop(int town) throws IllegalArgumentException {
        demand(town, 0, NUMBERS - 1);
        Numbers row = walker.waiting();
        return row.removeAt(row.placeOf(town)) != NONE;
    }

    // ---- the basket

    public int basket(int room) throws IllegalArgumentException {
        demand(room, -9, 99);
        if (room < 1) {
            return WRONG;
        }
        return offers.clear();
    }

    public int bid(int map, int from, int to)
            throws IndexOutOfBoundsException, IllegalArgumentException, IllegalStateException {
        Chart chart = chartOf(map);
        demand(from, 0, NUMBERS - 1);
        demand(to, 0, NUMBERS - 1);
        if (offers.size() >= MOST_BIDS) {
            throw new IllegalStateException("there are 60 bids");
        }
        int price = chart.arcs().lengthOf(from, to);
        return price == NONE ? VOID : offers.add(from, to, price);
    }

    public int bidTake() {
        if (offers.size() == 0) {
            return EMPTY;
        }
        int number = offers.number(0);
        offers.removeAt(0);
        return number;
    }

    public boolean bidDrop(int number) {
        return offers.removeAt(offers.placeOf(number));
    }

    public int build(int map) throws IndexOutOfBoundsException {
        Chart chart = chartOf(map);
        if (offers.size() == 0) {
            return EMPTY;
        }
        int from = offers.from(0);
        int to = offers.to(0);
        int price = offers.price(0);
        offers.removeAt(0);
        if (!chart.has(from) || !chart.has(to)) {
            return NOT_BUILT;
        }
        int before = chart.arcs().lengthOf(from, to);
        return chart.lay(from, to, price) ? before : NOT_BUILT;
    }

    public int knock() {
        knocks++;
        return knocks;
    }

    // ---- what is asked

    public int ofMap(int map, int what) throws IndexOutOfBoundsException, IllegalArgumentException {
        Chart chart = chartOf(map);
        demand(what, 0, 10);
        if (what > 4) {
            chart.survey();
        }
        Numbers towns = chart.towns();
        switch (what) {
            case 0:
                return towns.size();
            case 1:
                return chart.lineCount();
            case 2:
                return chart.isDirected() ? 1 : 0;
            case 3:
                return towns.size() == 0 ? EMPTY : towns.get(0);
            case 4:
                return towns.size() == 0 ? EMPTY : towns.last();
            case 5:
                return chart.plain().size() / 2;
            case 6:
                return chart.parts().count();
            case 7:
                return chart.parts().evenCount();
            case 8:
                return chart.depths().keyTowns().size();
            case 9:
                return chart.depths().keyLines().size();
            default:
                return chart.tree().longest();
        }
    }

    public int ofTown(int map, int town, int what) throws IndexOutOfBoundsException, IllegalArgumentException {
        Chart chart = chartWith(map, town);
        demand(what, 0, 11);
        if (what > 4) {
            chart.survey();
        }
        return valueOfTown(chart, town, what);
    }

    public long sums(int map, int what) throws IndexOutOfBoundsException, IllegalArgumentException {
        Chart chart = chartOf(map);
        demand(what, 0, 1);
        if (what == 0) {
            return chart.lineSum();
        }
        chart.survey();
        return chart.tree().sum();
    }

    public int length(int map, int from, int to) throws IndexOutOfBoundsException {
        return chartWithBoth(map, from, to).arcs().lengthOf(from, to);
    }

    public int beside(int map, int town, int number, int how)
            throws IndexOutOfBoundsException, IllegalArgumentException {
        Chart chart = chartWith(map, town);
        demand(number, 0, NUMBERS - 1);
        demand(how, 0, 3);
        boolean isFromNext = how == 1 || how == 3;
        int place = chart.arcs().first(town, isFromNext ? number + 1 : number);
        int wanted = how < 2 ? place - 1 : place;
        return chart.arcs().from(wanted) == town ? chart.arcs().to(wanted) : NONE;
    }

    public int window(int map, int town, int low, int high, int what)
            throws IndexOutOfBoundsException, IllegalArgumentException {
        Chart chart = chartWith(map, town);
        demand(low, 0, NUMBERS);
        demand(high, 0, NUMBERS);
        demand(what, 0, 3);
        if (low > high) {
            return WRONG;
        }
        Arcs arcs = chart.arcs();
        int start = arcs.first(town, low);
        int past = arcs.first(town, high);
        switch (what) {
            case 0:
                return past - start;
            case 1:
                return start < past ? arcs.to(start) : EMPTY;
            case 2:
                return start < past ? arcs.to(past - 1) : EMPTY;
            default:
                return arcs.longest(start, past);
        }
    }

    public String lines(int map, int town) throws IndexOutOfBoundsException {
        tellLines(chartWith(map, town), town);
        return text.toString();
    }

    public int common(int what) throws IllegalArgumentException {
        demand(what, 0, 3);
        switch (what) {
            case 0:
                return commonTowns();
            case 1:
                return commonPairs(false);
            case 2:
                return commonPairs(true);
            default:
                return left.isLike(right) ? 1 : 0;
        }
    }

    public int ofWalk(int what) throws IllegalArgumentException {
        demand(what, 0, 5);
        switch (what) {
            case 0:
                return walker.map();
            case 1:
                return walker.isByDepth() ? 1 : 0;
            case 2:
                return walker.order().size();
            case 3:
                return walker.waiting().size();
            case 4:
                return walker.order().last();
            default:
                return visitedThere();
        }
    }

    public String visited() {
        tellTowns(walker.order());
        return text.toString();
    }

    public String row(boolean atFront) {
        tellRow(atFront);
        return text.toString();
    }

    public int bidLook(int what) throws IllegalArgumentException {
        demand(what, 0, 3);
        if (offers.size() == 0) {
            return EMPTY;
        }
        switch (what) {
            case 0:
                return offers.number(0);
            case 1:
                return offers.price(0);
            case 2:
                return offers.from(0);
            default:
                return offers.to(0);
        }
    }

    public String bids() {
        tellBids();
        return text.toString();
    }

    // ---- ways

    public int hops(int map, int from, int to) throws IndexOutOfBoundsException {
        spread.start(chartWithBoth(map, from, to).arcs(), from);
        return spread.level(to);
    }

    public String hopWay(int map, int from, int to) throws IndexOutOfBoundsException {
        return wayAlong(chartWithBoth(map, from, to).arcs(), from, to);
    }

    public long near(int map, int from, int to) throws IndexOutOfBoundsException {
        Chart chart = chartWithBoth(map, from, to);
        nearest.start(chart, from);
        return nearest.distance(to);
    }

    public String nearWay(int map, int from, int to) throws IndexOutOfBoundsException {
        Chart chart = chartWithBoth(map, from, to);
        nearest.start(chart, from);
        nearest.choose(chart.arcs(), chosen);
        return wayAlong(chosen, from, to);
    }

    public String settled(int map, int from) throws IndexOutOfBoundsException {
        nearest.start(chartWith(map, from), from);
        tellTowns(nearest.order());
        return text.toString();
    }

    public int into(int map, int from, int to) throws IndexOutOfBoundsException {
        Chart chart = chartWithBoth(map, from, to);
        if (from == to) {
            return NONE;
        }
        nearest.start(chart, from);
        nearest.choose(chart.arcs(), chosen);
        for (int place = 0; place < chosen.size(); place++) {
            if (chosen.to(place) == to) {
                return chosen.from(place);
            }
        }
        return NONE;
    }

    // ---- trees, keys, colours

    public String treeLines(int map) throws IndexOutOfBoundsException {
        Chart chart = chartOf(map);
        chart.survey();
        tellPairs(chart.tree().order());
        return text.toString();
    }

    public String treeWay(int map, int from, int to) throws IndexOutOfBoundsException {
        Chart chart = chartWithBoth(map, from, to);
        chart.survey();
        return wayAlong(chart.tree().arcs(), from, to);
    }

    public int treeMost(int map, int from, int to) throws IndexOutOfBoundsException {
        Chart chart = chartWithBoth(map, from, to);
        chart.survey();
        spread.start(chart.tree().arcs(), from);
        return longestOnWay(chart.tree().arcs(), to);
    }

    public String keys(int map, boolean ofLines) throws IndexOutOfBoundsException {
        Chart chart = chartOf(map);
        chart.survey();
        tellKeys(chart.depths(), ofLines);
        return text.toString();
    }

    public String odd(int map) throws IndexOutOfBoundsException {
        Chart chart = chartOf(map);
        chart.survey();
        findOdd(chart.parts());
        tellTowns(found);
        return text.toString();
    }

    // ---- flows

    public long flow(int map, int from, int to) throws IndexOutOfBoundsException, IllegalArgumentException {
        return pourBetween(map, from, to);
    }

    public String cut(int map, int from, int to, boolean ofLines)
            throws IndexOutOfBoundsException, IllegalArgumentException {
        pourBetween(map, from, to);
        tellCut(chartOf(map), ofLines);
        return text.toString();
    }

    // ---- all of it

    public boolean isSound() {
        for (int map = 0; map < 2; map++) {
            Chart chart = map == 0 ? left : right;
            chart.survey();
            boolean isSo = boundsHold(chart) && distancesHold(chart) && treeHolds(chart) && keysHold(chart)
                    && coloursHold(chart) && flowHolds(chart);
            if (!isSo) {
                return false;
            }
        }
        return true;
    }

    public long digest() {
        long d = 4811;
        for (int map = 0; map < 2; map++) {
            Chart chart = map == 0 ? left : right;
            chart.survey();
            for (int what = 0; what <= 10; what++) {
                d = mixed(d, ofMap(map, what));
            }
            d = mixed(d, sums(map, 0));
            d = mixed(d, sums(map, 1));
            d = digestTowns(d, chart);
            d = digestTexts(d, chart);
            d = digestFlow(d, chart);
        }
        for (int what = 0; what <= 3; what++) {
            d = mixed(d, common(what));
        }
        d = digestDesk(d);
        return mixed(d, isSound() ? 1 : 0);
    }

    // ---- helpers of the face

    private Chart chartOf(int map) {
        if (map != 0 && map != 1) {
            throw new IndexOutOfBoundsException("there is no such map");
        }
        return map == 0 ? left : right;
    }

    private Chart chartWith(int map, int town) {
        Chart chart = chartOf(map);
        if (!chart.has(town)) {
            throw new IndexOutOfBoundsException("there is no such town");
        }
        return chart;
    }

    private Chart chartWithBoth(int map, int from, int to) {
        chartWith(map, from);
        return chartWith(map, to);
    }

    private Chart otherThan(int map) {
        return map == 0 ? right : left;
    }

    private Chart chartOfWalk() {
        return walker.map() == 0 ? left : right;
    }

    private static void demand(int value, int least, int most) {
        if (value < least || value > most) {
            throw new IllegalArgumentException("a number is out of its bounds");
        }
    }

    private static int seriesLength(int length, int more, int count) {
        return (int) ((length + (long) count * more) % SERIES_MODULUS);
    }

    private static long mixed(long d, long value) {
        return d * 31 + value;
    }

    private static int valueOfTown(Chart chart, int town, int what) {
        switch (what) {
            case 5:
                return chart.parts().head(town);
            case 6:
                return chart.parts().level(town);
            case 7:
                return chart.parts().colour(town);
            case 8:
                return chart.depths().number(town);
            case 9:
                return chart.depths().low(town);
            case 10:
                return chart.depths().father(town);
            case 11:
                return chart.depths().isKey(town) ? 1 : 0;
            default:
                return ofArcs(chart.arcs(), town, what);
        }
    }

    private static int ofArcs(Arcs arcs, int town, int what) {
        int start = arcs.first(town, 0);
        int past = arcs.first(town, NUMBERS);
        switch (what) {
            case 0:
                return past - start;
            case 1:
                return arcs.countInto(town);
            case 2:
                return start < past ? arcs.to(start) : EMPTY;
            case 3:
                return start < past ? arcs.to(past - 1) : EMPTY;
            default:
                return arcs.shortest(start, past);
        }
    }

    private int commonTowns() {
        int many = 0;
        for (int i = 0; i < left.towns().size(); i++) {
            if (right.has(left.towns().get(i))) {
                many++;
            }
        }
        return many;
    }

    private int commonPairs(boolean alikeOnly) {
        Arcs arcs = left.arcs();
        int many = 0;
        for (int place = 0; place < arcs.size(); place++) {
            int there = right.arcs().lengthOf(arcs.from(place), arcs.to(place));
            if (there != NONE && (!alikeOnly || there == arcs.lengthAt(place))) {
                many++;
            }
        }
        return many;
    }

    private int visitedThere() {
        Chart chart = chartOfWalk();
        int many = 0;
        for (int i = 0; i < walker.order().size(); i++) {
            if (chart.has(walker.order().get(i))) {
                many++;
            }
        }
        return many;
    }

    private String wayAlong(Arcs arcs, int from, int to) {
        spread.start(arcs, from);
        spread.trace(to, found);
        tellTowns(found);
        return text.toString();
    }

    /** Of the way from where the search began to a town, which it follows backwards. */
    private int longestOnWay(Arcs arcs, int to) {
        int longest = NONE;
        int at = to;
        for (int turn = 0; turn < NUMBERS && spread.father(at) != NONE; turn++) {
            longest = Math.max(longest, arcs.lengthOf(spread.father(at), at));
            at = spread.father(at);
        }
        return longest;
    }

    private long pourBetween(int map, int from, int to) {
        Chart chart = chartWithBoth(map, from, to);
        if (from == to) {
            throw new IllegalArgumentException("a flow is between two towns");
        }
        chart.survey();
        return pipes.pour(chart.arcs(), chart.plain(), from, to);
    }

    /** The rows from the HEAD are those of one search, so they go the same way up to c and never meet again. */
    private void findOdd(Parts parts) {
        found.clear();
        int a = parts.oddFrom();
        int b = parts.oddTo();
        int up = 0;
        for (int turn = 0; turn < NUMBERS && a != b; turn++) {
            found.insert(up, a);
            up++;
            found.insert(up, b);
            a = parts.nearer(a);
            b = parts.nearer(b);
        }
        if (a != NONE) {
            found.insert(up, a);
        }
    }

    // ---- texts: each is put together in the one builder

    private void tellTowns(Numbers towns) {
        text.setLength(0);
        for (int i = 0; i < towns.size(); i++) {
            tellNext(towns.get(i), '-');
        }
    }

    private void tellNext(int number, char between) {
        if (text.length() > 0) {
            text.append(between);
        }
        text.append(number);
    }

    private void tellRow(boolean atFront) {
        Numbers row = walker.waiting();
        text.setLength(0);
        for (int i = 0; i < row.size() && i < MOST_TOLD; i++) {
            tellNext(row.get(atFront ? i : row.size() - 1 - i), '-');
        }
    }

    private void tellLines(Chart chart, int town) {
        Arcs arcs = chart.arcs();
        text.setLength(0);
        int past = arcs.first(town, NUMBERS);
        for (int place = arcs.first(town, 0); place < past; place++) {
            tellNext(arcs.to(place), ' ');
            text.append(':').append(arcs.lengthAt(place));
        }
    }

    private void tellBids() {
        text.setLength(0);
        for (int i = 0; i < offers.size(); i++) {
            tellNext(offers.number(i), ' ');
            text.append(':').append(offers.price(i));
        }
    }

    private void tellPairs(Numbers pairs) {
        text.setLength(0);
        for (int i = 0; i < pairs.size(); i++) {
            tellNext(pairs.get(i) / NUMBERS, ' ');
            text.append('-').append(pairs.get(i) % NUMBERS);
        }
    }

    private void tellKeys(Depths depths, boolean ofLines) {
        if (ofLines) {
            tellPairs(depths.keyLines());
        } else {
            tellTowns(depths.keyTowns());
        }
    }

    private void tellCut(Chart chart, boolean ofLines) {
        text.setLength(0);
        if (!ofLines) {
            for (int i = 0; i < chart.towns().size(); i++) {
                if (pipes.isInCut(chart.towns().get(i))) {
                    tellNext(chart.towns().get(i), '-');
                }
            }
            return;
        }
        Arcs arcs = chart.arcs();
        for (int place = 0; place < arcs.size(); place++) {
            if (pipes.isCutting(arcs, place)) {
                tellNext(arcs.from(place), ' ');
                text.append('>').append(arcs.to(place));
            }
        }
    }

    // ---- what isSound looks at

    private boolean boundsHold(Chart chart) {
        Numbers towns = chart.towns();
        Arcs arcs = chart.arcs();
        if (towns.size() > MOST_TOWNS || chart.lineCount() > MOST_LINES || offers.size() > MOST_BIDS) {
            return false;
        }
        for (int i = 0; i < towns.size(); i++) {
            int town = towns.get(i);
            if (town < 0 || town >= NUMBERS || i > 0 && towns.get(i - 1) >= town) {
                return false;
            }
        }
        for (int place = 0; place < arcs.size(); place++) {
            int from = arcs.from(place);
            int to = arcs.to(place);
            int length = arcs.lengthAt(place);
            boolean isBounded = length >= 0 && length <= MOST_LENGTH;
            boolean isTwoWay = chart.isDirected() || arcs.lengthOf(to, from) == length;
            if (from == to || !chart.has(from) || !chart.has(to) || !isBounded || !isTwoWay) {
                return false;
            }
        }
        return true;
    }

    private boolean distancesHold(Chart chart) {
        if (chart.towns().size() == 0) {
            return true;
        }
        nearest.start(chart, chart.towns().get(0));
        return nearest.isWhatLessens(chart.arcs(), chart.towns().get(0));
    }

    private boolean treeHolds(Chart chart) {
        Arcs plain = chart.plain();
        Arcs tree = chart.tree().arcs();
        int searched = NONE;
        for (int place = 0; place < plain.size(); place++) {
            int from = plain.from(place);
            int to = plain.to(place);
            if (from != searched) {
                spread.start(tree, from);
                searched = from;
            }
            boolean isInTree = tree.lengthOf(from, to) != NONE;
            boolean isJoined = spread.level(to) != NONE;
            if (!isInTree && (!isJoined || plain.lengthAt(place) < longestOnWay(tree, to))) {
                return false;
            }
        }
        return true;
    }

    private boolean keysHold(Chart chart) {
        Numbers towns = chart.towns();
        for (int i = 0; i < towns.size(); i++) {
            int town = towns.get(i);
            boolean isParting = partsWithout(chart, town) > chart.parts().count();
            if (isParting != chart.depths().isKey(town)) {
                return false;
            }
        }
        return true;
    }

    private int partsWithout(Chart chart, int town) {
        Numbers towns = chart.towns();
        int many = 0;
        spread.clear();
        spread.bar(town);
        for (int i = 0; i < towns.size(); i++) {
            if (spread.level(towns.get(i)) == NONE) {
                spread.run(chart.plain(), towns.get(i));
                many++;
            }
        }
        return many;
    }

    private boolean coloursHold(Chart chart) {
        Parts parts = chart.parts();
        Arcs plain = chart.plain();
        findOdd(parts);
        int size = found.size();
        if (parts.evenCount() == parts.count()) {
            for (int place = 0; place < plain.size(); place++) {
                if (parts.colour(plain.from(place)) == parts.colour(plain.to(place))) {
                    return false;
                }
            }
            return size == 0;
        }
        for (int i = 0; i < size; i++) {
            int next = i + 1 < size ? found.get(i + 1) : found.get(0);
            if (plain.lengthOf(found.get(i), next) == NONE) {
                return false;
            }
        }
        return (size & 1) == 1;
    }

    private boolean flowHolds(Chart chart) {
        Numbers towns = chart.towns();
        if (towns.size() < 2) {
            return true;
        }
        long most = pipes.pour(chart.arcs(), chart.plain(), towns.get(0), towns.last());
        long sum = 0;
        for (int place = 0; place < chart.arcs().size(); place++) {
            if (pipes.isCutting(chart.arcs(), place)) {
                sum += chart.arcs().lengthAt(place);
            }
        }
        return most == sum;
    }

    // ---- the parts of digest

    private long digestTowns(long before, Chart chart) {
        Numbers towns = chart.towns();
        long d = before;
        if (towns.size() > 0) {
            nearest.start(chart, towns.get(0));
        }
        for (int i = 0; i < towns.size(); i++) {
            int town = towns.get(i);
            for (int what = 0; what <= 11; what++) {
                d = mixed(d, valueOfTown(chart, town, what));
            }
            d = mixed(d, nearest.distance(town));
            tellLines(chart, town);
            d = mixed(d, text.length());
        }
        return d;
    }

    private long digestTexts(long before, Chart chart) {
        tellPairs(chart.tree().order());
        long d = mixed(before, text.length());
        tellKeys(chart.depths(), true);
        d = mixed(d, text.length());
        tellKeys(chart.depths(), false);
        d = mixed(d, text.length());
        findOdd(chart.parts());
        tellTowns(found);
        return mixed(d, text.length());
    }

    private long digestFlow(long before, Chart chart) {
        Numbers towns = chart.towns();
        long d = before;
        if (towns.size() > 0) {
            nearest.start(chart, towns.get(0));
            d = digestRow(d, nearest.order());
        }
        if (towns.size() > 1) {
            d = mixed(d, pipes.pour(chart.arcs(), chart.plain(), towns.get(0), towns.last()));
            tellCut(chart, true);
            d = mixed(d, text.length());
            tellCut(chart, false);
            d = mixed(d, text.length());
        }
        return d;
    }

    private long digestDesk(long before) {
        long d = before;
        for (int what = 0; what <= 5; what++) {
            d = mixed(d, ofWalk(what));
        }
        d = digestRow(d, walker.order());
        d = mixed(d, rowLook(true));
        d = mixed(d, rowLook(false));
        tellRow(true);
        d = mixed(d, text.length());
        for (int what = 0; what <= 3; what++) {
            d = mixed(d, bidLook(what));
        }
        d = mixed(d, offers.size());
        tellBids();
        d = mixed(d, text.length());
        return mixed(d, knocks);
    }

    private static long digestRow(long before, Numbers row) {
        long d = before;
        for (int i = 0; i < row.size(); i++) {
            d = mixed(d, row.get(i));
        }
        return d;
    }

    /** A row of whole numbers. A place that it does not have tells NONE and takes nothing. */
    private static final class Numbers {
        private final int most;
        private int[] held;
        private int size;

        Numbers(int room, int most) {
            this.most = most;
            this.held = new int[room < 0 ? 0 : room];
            this.size = 0;
        }

        int size() {
            return size;
        }

        int get(int place) {
            return place >= 0 && place < size && place < held.length ? held[place] : NONE;
        }

        int last() {
            return get(size - 1);
        }

        void set(int place, int value) {
            if (place >= 0 && place < size && place < held.length) {
                held[place] = value;
            }
        }

        void clear() {
            size = 0;
        }

        void fill(int many, int value) {
            size = Math.max(0, Math.min(many, held.length));
            for (int place = 0; place < size; place++) {
                held[place] = value;
            }
        }

        void add(int value) {
            insert(size, value);
        }

        void insert(int place, int value) {
            if (size >= held.length && held.length < most) {
                held = Arrays.copyOf(held, Math.min(most, 2 * held.length));
            }
            if (place < 0 || place > size || size >= held.length) {
                return;
            }
            System.arraycopy(held, place, held, place + 1, size - place);
            held[place] = value;
            size++;
        }

        int removeAt(int place) {
            if (place < 0 || place >= size || size > held.length) {
                return NONE;
            }
            int value = held[place];
            System.arraycopy(held, place + 1, held, place, size - place - 1);
            size--;
            return value;
        }

        int placeOf(int value) {
            for (int place = 0; place < size; place++) {
                if (isAt(place, value)) {
                    return place;
                }
            }
            return NONE;
        }

        /** Of a row of rising numbers: the first place with the value or more; the size, if there is none. */
        int placeFrom(int value) {
            int low = 0;
            int high = size;
            for (int turn = 0; turn < 32 && low < high; turn++) {
                int middle = (low + high) >>> 1;
                if (middle < held.length && held[middle] < value) {
                    low = middle + 1;
                } else {
                    high = middle;
                }
            }
            return low;
        }

        boolean isAt(int place, int value) {
            return place >= 0 && place < size && place < held.length && held[place] == value;
        }

        boolean hasRising(int value) {
            return isAt(placeFrom(value), value);
        }

        void addRising(int value) {
            insert(placeFrom(value), value);
        }

        boolean isSame(Numbers other) {
            if (size != other.size()) {
                return false;
            }
            for (int place = 0; place < size; place++) {
                if (get(place) != other.get(place)) {
                    return false;
                }
            }
            return true;
        }

        void takeOver(Numbers other) {
            size = 0;
            for (int place = 0; place < other.size(); place++) {
                add(other.get(place));
            }
        }
    }

    /**
     * What leads from one town to another, by rising numbers of the first, then of the other.
     * An arc goes one way: a line that leads both ways is two of them.
     */
    private static final class Arcs {
        private final Numbers pairs;
        private final Numbers lengths;

        Arcs(int room) {
            pairs = new Numbers(room, room);
            lengths = new Numbers(room, room);
        }

        int size() {
            return pairs.size();
        }

        int from(int place) {
            int pair = pairs.get(place);
            return pair < 0 ? NONE : pair / NUMBERS;
        }

        int to(int place) {
            int pair = pairs.get(place);
            return pair < 0 ? NONE : pair % NUMBERS;
        }

        int lengthAt(int place) {
            return lengths.get(place);
        }

        /** The first place behind all arcs of smaller towns and of this one to smaller numbers. */
        int first(int town, int number) {
            return pairs.placeFrom(town * NUMBERS + number);
        }

        int placeOf(int from, int to) {
            int place = first(from, to);
            return pairs.isAt(place, from * NUMBERS + to) ? place : NONE;
        }

        int lengthOf(int from, int to) {
            int place = first(from, to);
            return pairs.isAt(place, from * NUMBERS + to) ? lengths.get(place) : NONE;
        }

        void put(int from, int to, int length) {
            int place = first(from, to);
            if (pairs.isAt(place, from * NUMBERS + to)) {
                lengths.set(place, length);
            } else {
                pairs.insert(place, from * NUMBERS + to);
                lengths.insert(place, length);
            }
        }

        void removeAt(int place) {
            pairs.removeAt(place);
            lengths.removeAt(place);
        }

        void clear() {
            pairs.clear();
            lengths.clear();
        }

        void takeOver(Arcs other) {
            pairs.takeOver(other.pairs);
            lengths.takeOver(other.lengths);
        }

        boolean isSame(Arcs other) {
            return pairs.isSame(other.pairs) && lengths.isSame(other.lengths);
        }

        int countInto(int town) {
            int many = 0;
            for (int place = 0; place < pairs.size(); place++) {
                if (to(place) == town) {
                    many++;
                }
            }
            return many;
        }

        int longest(int start, int past) {
            int longest = NONE;
            for (int place = start; place < past; place++) {
                longest = Math.max(longest, lengths.get(place));
            }
            return longest;
        }

        int shortest(int start, int past) {
            int shortest = lengths.get(start < past ? start : NONE);
            for (int place = start; place < past; place++) {
                shortest = Math.min(shortest, lengths.get(place));
            }
            return shortest;
        }
    }

    /** A MAP. What is known of its PLAIN LINES is found out again only when it was changed. */
    private static final class Chart {
        private final Numbers towns;
        private final Arcs arcs;
        private final Arcs joined;
        private final Parts parts;
        private final Depths depths;
        private final Tree tree;
        private boolean isDirected;
        private boolean isSurveyed;

        Chart() {
            towns = new Numbers(MOST_TOWNS, MOST_TOWNS);
            arcs = new Arcs(MOST_ARCS);
            joined = new Arcs(MOST_ARCS);
            parts = new Parts();
            depths = new Depths();
            tree = new Tree();
            isDirected = false;
            isSurveyed = false;
        }

        Numbers towns() {
            return towns;
        }

        Arcs arcs() {
            return arcs;
        }

        boolean isDirected() {
            return isDirected;
        }

        int lineCount() {
            return isDirected ? arcs.size() : arcs.size() / 2;
        }

        long lineSum() {
            long sum = 0;
            for (int place = 0; place < arcs.size(); place++) {
                sum += arcs.lengthAt(place);
            }
            return isDirected ? sum : sum / 2;
        }

        boolean has(int town) {
            return towns.hasRising(town);
        }

        boolean hasRoomForTown() {
            return towns.size() < MOST_TOWNS;
        }

        void beginAnew(boolean directed) {
            towns.clear();
            arcs.clear();
            isDirected = directed;
            isSurveyed = false;
        }

        boolean found(int number) {
            if (number < 0 || number >= NUMBERS || has(number) || !hasRoomForTown()) {
                return false;
            }
            towns.addRising(number);
            isSurveyed = false;
            return true;
        }

        /** Tells how many lines were lost with the town. */
        int lose(int town) {
            int before = lineCount();
            for (int place = arcs.size() - 1; place >= 0; place--) {
                if (arcs.from(place) == town || arcs.to(place) == town) {
                    arcs.removeAt(place);
                }
            }
            towns.removeAt(towns.placeOf(town));
            isSurveyed = false;
            return before - lineCount();
        }

        boolean fits(int from, int to) {
            return lineCount() < MOST_LINES || arcs.lengthOf(from, to) != NONE;
        }

        /** Tells whether it fitted. */
        boolean lay(int from, int to, int length) {
            if (!fits(from, to)) {
                return false;
            }
            arcs.put(from, to, length);
            if (!isDirected) {
                arcs.put(to, from, length);
            }
            isSurveyed = false;
            return true;
        }

        /** Tells whether there was such a line. */
        boolean takeAway(int from, int to) {
            int place = arcs.placeOf(from, to);
            if (place == NONE) {
                return false;
            }
            arcs.removeAt(place);
            if (!isDirected) {
                arcs.removeAt(arcs.placeOf(to, from));
            }
            isSurveyed = false;
            return true;
        }

        void turnRound(Arcs spare) {
            spare.clear();
            for (int place = 0; place < arcs.size(); place++) {
                spare.put(arcs.to(place), arcs.from(place), arcs.lengthAt(place));
            }
            arcs.takeOver(spare);
            isSurveyed = false;
        }

        void takeOver(Chart other) {
            towns.takeOver(other.towns);
            arcs.takeOver(other.arcs);
            isDirected = other.isDirected;
            isSurveyed = false;
        }

        boolean isLike(Chart other) {
            return isDirected == other.isDirected && towns.isSame(other.towns) && arcs.isSame(other.arcs);
        }

        /** To be called ahead of plain(), parts(), depths() and tree(), which tell what it found. */
        void survey() {
            if (isSurveyed) {
                return;
            }
            if (isDirected) {
                joinArcs();
            }
            parts.find(towns, plain());
            depths.tour(towns, plain());
            tree.grow(towns, plain());
            isSurveyed = true;
        }

        Arcs plain() {
            return isDirected ? joined : arcs;
        }

        Parts parts() {
            return parts;
        }

        Depths depths() {
            return depths;
        }

        Tree tree() {
            return tree;
        }

        private void joinArcs() {
            joined.clear();
            for (int place = 0; place < arcs.size(); place++) {
                int from = arcs.from(place);
                int to = arcs.to(place);
                int back = arcs.lengthOf(to, from);
                int length = arcs.lengthAt(place);
                int shorter = back == NONE ? length : Math.min(length, back);
                joined.put(from, to, shorter);
                joined.put(to, from, shorter);
            }
        }
    }

    /**
     * A search by breadth. Neighbours come by rising numbers, so the way back along the fathers
     * is, of the ways of fewest lines, the FIRST.
     */
    private static final class Spread {
        private final Numbers levels;
        private final Numbers fathers;
        private final Numbers queue;

        Spread() {
            levels = new Numbers(NUMBERS, NUMBERS);
            fathers = new Numbers(NUMBERS, NUMBERS);
            queue = new Numbers(NUMBERS, NUMBERS);
        }

        void clear() {
            levels.fill(NUMBERS, NONE);
            fathers.fill(NUMBERS, NONE);
            queue.clear();
        }

        int level(int town) {
            return levels.get(town);
        }

        int father(int town) {
            return fathers.get(town);
        }

        Numbers queue() {
            return queue;
        }

        /** No search enters it from now on. */
        void bar(int town) {
            levels.set(town, 0);
        }

        void start(Arcs arcs, int from) {
            clear();
            run(arcs, from);
        }

        /** Goes on beside what earlier searches have reached. */
        void run(Arcs arcs, int from) {
            int next = queue.size();
            enter(from, 0, NONE);
            for (; next < queue.size() && next < NUMBERS; next++) {
                int town = queue.get(next);
                int level = levels.get(town) + 1;
                int past = arcs.first(town, NUMBERS);
                for (int place = arcs.first(town, 0); place < past; place++) {
                    int to = arcs.to(place);
                    if (levels.get(to) == NONE) {
                        enter(to, level, town);
                    }
                }
            }
        }

        private void enter(int town, int level, int father) {
            levels.set(town, level);
            fathers.set(town, father);
            queue.add(town);
        }

        /** Fills the row with the way to a town; with nothing, if there is none. */
        void trace(int to, Numbers way) {
            way.fill(levels.get(to) + 1, NONE);
            int at = to;
            for (int place = way.size() - 1; place >= 0; place--) {
                way.set(place, at);
                at = fathers.get(at);
            }
        }
    }

    /** PARTS, LEVELS and COLOURS. */
    private static final class Parts {
        private final Spread spread;
        private final Numbers heads;
        private final Numbers isOdd;
        private int count;
        private int oddCount;
        private int oddFrom;
        private int oddTo;

        Parts() {
            spread = new Spread();
            heads = new Numbers(NUMBERS, NUMBERS);
            isOdd = new Numbers(NUMBERS, NUMBERS);
            count = 0;
            oddCount = 0;
            oddFrom = NONE;
            oddTo = NONE;
        }

        int count() {
            return count;
        }

        int evenCount() {
            return count - oddCount;
        }

        int head(int town) {
            return heads.get(town);
        }

        int level(int town) {
            return spread.level(town);
        }

        int colour(int town) {
            return isOdd.get(heads.get(town)) == 1 ? NONE : spread.level(town) & 1;
        }

        /** The town before it on the FIRST of the shortest rows from its HEAD. */
        int nearer(int town) {
            return spread.father(town);
        }

        int oddFrom() {
            return oddFrom;
        }

        int oddTo() {
            return oddTo;
        }

        void find(Numbers towns, Arcs plain) {
            spread.clear();
            heads.fill(NUMBERS, NONE);
            count = 0;
            for (int i = 0; i < towns.size(); i++) {
                if (heads.get(towns.get(i)) == NONE) {
                    int start = spread.queue().size();
                    spread.run(plain, towns.get(i));
                    nameHead(start, towns.get(i));
                    count++;
                }
            }
            findOdd(plain);
        }

        /** Of all that the search has reached from a place of its queue on. */
        private void nameHead(int start, int head) {
            for (int i = start; i < spread.queue().size(); i++) {
                heads.set(spread.queue().get(i), head);
            }
        }

        /** Lines of one PART join LEVELS that are alike or next to each other; only the former make it odd. */
        private void findOdd(Arcs plain) {
            isOdd.fill(NUMBERS, 0);
            oddCount = 0;
            oddFrom = NONE;
            oddTo = NONE;
            for (int place = 0; place < plain.size(); place++) {
                int a = plain.from(place);
                int b = plain.to(place);
                if (spread.level(a) == spread.level(b)) {
                    if (oddFrom == NONE) {
                        oddFrom = a;
                        oddTo = b;
                    }
                    if (isOdd.get(heads.get(a)) == 0) {
                        isOdd.set(heads.get(a), 1);
                        oddCount++;
                    }
                }
            }
        }
    }

    /** The DEPTH WALK, and what its LOWS tell: KEY TOWNS and KEY LINES. */
    private static final class Depths {
        private final Numbers order;
        private final Numbers numbers;
        private final Numbers lows;
        private final Numbers fathers;
        private final Numbers keyTowns;
        private final Numbers keyLines;

        Depths() {
            order = new Numbers(NUMBERS, NUMBERS);
            numbers = new Numbers(NUMBERS, NUMBERS);
            lows = new Numbers(NUMBERS, NUMBERS);
            fathers = new Numbers(NUMBERS, NUMBERS);
            keyTowns = new Numbers(MOST_TOWNS, MOST_TOWNS);
            keyLines = new Numbers(MOST_TOWNS, MOST_TOWNS);
        }

        int number(int town) {
            return numbers.get(town);
        }

        int low(int town) {
            return lows.get(town);
        }

        int father(int town) {
            return fathers.get(town);
        }

        boolean isKey(int town) {
            return keyTowns.hasRising(town);
        }

        Numbers keyTowns() {
            return keyTowns;
        }

        Numbers keyLines() {
            return keyLines;
        }

        void tour(Numbers towns, Arcs plain) {
            order.clear();
            numbers.fill(NUMBERS, NONE);
            lows.fill(NUMBERS, NONE);
            fathers.fill(NUMBERS, NONE);
            for (int i = 0; i < towns.size(); i++) {
                if (numbers.get(towns.get(i)) == NONE) {
                    tourPart(plain, towns.get(i));
                }
            }
            findLows(plain);
            findKeys();
        }

        /** Each turn enters a town or leaves one for good. */
        private void tourPart(Arcs plain, int start) {
            enter(start, NONE);
            int at = start;
            for (int turn = 0; turn < 2 * NUMBERS && at != NONE; turn++) {
                int next = nextFrom(plain, at);
                if (next == NONE) {
                    at = fathers.get(at);
                } else {
                    enter(next, at);
                    at = next;
                }
            }
        }

        private void enter(int town, int father) {
            numbers.set(town, order.size());
            lows.set(town, order.size());
            fathers.set(town, father);
            order.add(town);
        }

        private int nextFrom(Arcs plain, int town) {
            int past = plain.first(town, NUMBERS);
            for (int place = plain.first(town, 0); place < past; place++) {
                if (numbers.get(plain.to(place)) == NONE) {
                    return plain.to(place);
                }
            }
            return NONE;
        }

        /** Backwards, so that all that is below a town has its low before the town hands on its own. */
        private void findLows(Arcs plain) {
            for (int i = order.size() - 1; i >= 0; i--) {
                int town = order.get(i);
                int past = plain.first(town, NUMBERS);
                for (int place = plain.first(town, 0); place < past; place++) {
                    if (plain.to(place) != fathers.get(town)) {
                        lower(town, numbers.get(plain.to(place)));
                    }
                }
                lower(fathers.get(town), lows.get(town));
            }
        }

        private void lower(int town, int low) {
            if (lows.get(town) > low) {
                lows.set(town, low);
            }
        }

        private void findKeys() {
            keyTowns.clear();
            keyLines.clear();
            int children = 0;
            for (int i = order.size() - 1; i >= 0; i--) {
                int town = order.get(i);
                int father = fathers.get(town);
                if (father == NONE) {
                    if (children > 1) {
                        addKeyTown(town);
                    }
                    children = 0;
                } else if (fathers.get(father) == NONE) {
                    children++;
                } else if (lows.get(town) >= numbers.get(father)) {
                    addKeyTown(father);
                }
                if (father != NONE && lows.get(town) > numbers.get(father)) {
                    keyLines.addRising(Math.min(father, town) * NUMBERS + Math.max(father, town));
                }
            }
        }

        private void addKeyTown(int town) {
            if (!keyTowns.hasRising(town)) {
                keyTowns.addRising(town);
            }
        }
    }

    /** The LEAST TREE. */
    private static final class Tree {
        private final Numbers sorted;
        private final Numbers labels;
        private final Numbers order;
        private final Arcs arcs;
        private long sum;
        private int longest;

        Tree() {
            sorted = new Numbers(MOST_LINES, MOST_LINES);
            labels = new Numbers(NUMBERS, NUMBERS);
            order = new Numbers(MOST_TOWNS, MOST_TOWNS);
            arcs = new Arcs(2 * MOST_TOWNS);
            sum = 0;
            longest = NONE;
        }

        Numbers order() {
            return order;
        }

        Arcs arcs() {
            return arcs;
        }

        long sum() {
            return sum;
        }

        int longest() {
            return longest;
        }

        void grow(Numbers towns, Arcs plain) {
            sort(plain);
            labels.fill(NUMBERS, NONE);
            for (int i = 0; i < towns.size(); i++) {
                labels.set(towns.get(i), i);
            }
            order.clear();
            arcs.clear();
            sum = 0;
            longest = NONE;
            for (int i = 0; i < sorted.size(); i++) {
                int place = sorted.get(i);
                addUnlessJoined(plain.from(place), plain.to(place), plain.lengthAt(place));
            }
        }

        /** Sorts the places of the lines; like lengths stay by rising a, then b, as the arcs come so. */
        private void sort(Arcs plain) {
            sorted.clear();
            for (int place = 0; place < plain.size(); place++) {
                if (plain.from(place) < plain.to(place)) {
                    sorted.insert(placeBehind(plain, plain.lengthAt(place)), place);
                }
            }
        }

        private int placeBehind(Arcs plain, int length) {
            int low = 0;
            int high = sorted.size();
            for (int turn = 0; turn < 32 && low < high; turn++) {
                int middle = (low + high) >>> 1;
                if (plain.lengthAt(sorted.get(middle)) <= length) {
                    low = middle + 1;
                } else {
                    high = middle;
                }
            }
            return low;
        }

        private void addUnlessJoined(int a, int b, int length) {
            int gone = labels.get(b);
            int kept = labels.get(a);
            if (gone == kept) {
                return;
            }
            for (int town = 0; town < NUMBERS; town++) {
                if (labels.get(town) == gone) {
                    labels.set(town, kept);
                }
            }
            order.add(a * NUMBERS + b);
            arcs.put(a, b, length);
            arcs.put(b, a, length);
            sum += length;
            longest = length;
        }
    }

    /** DISTANCES from a town, and its SETTLED ROW. */
    private static final class Nearest {
        private final long[] least;
        private final long[] lessened;
        private final Numbers isIn;
        private final Numbers order;

        Nearest() {
            least = new long[NUMBERS];
            lessened = new long[NUMBERS];
            isIn = new Numbers(NUMBERS, NUMBERS);
            order = new Numbers(NUMBERS, NUMBERS);
        }

        private static long sumOf(long[] sums, int town) {
            return town >= 0 && town < sums.length ? sums[town] : NONE;
        }

        /** Tells whether it became less. */
        private static boolean lessen(long[] sums, int town, long sum) {
            if (town < 0 || town >= sums.length || sums[town] != NONE && sums[town] <= sum) {
                return false;
            }
            sums[town] = sum;
            return true;
        }

        long distance(int town) {
            return sumOf(least, town);
        }

        Numbers order() {
            return order;
        }

        void start(Chart chart, int from) {
            Arrays.fill(least, NONE);
            lessen(least, from, 0);
            isIn.fill(NUMBERS, 0);
            order.clear();
            int town = from;
            for (int turn = 0; turn < NUMBERS && town != NONE; turn++) {
                order.add(town);
                isIn.set(town, 1);
                lessenFrom(chart.arcs(), town);
                town = nextOf(chart.towns());
            }
        }

        private void lessenFrom(Arcs arcs, int town) {
            int past = arcs.first(town, NUMBERS);
            for (int place = arcs.first(town, 0); place < past; place++) {
                lessen(least, arcs.to(place), sumOf(least, town) + arcs.lengthAt(place));
            }
        }

        private int nextOf(Numbers towns) {
            int next = NONE;
            for (int i = 0; i < towns.size(); i++) {
                int town = towns.get(i);
                long sum = sumOf(least, town);
                if (sum != NONE && isIn.get(town) == 0 && (next == NONE || sum < sumOf(least, next))) {
                    next = town;
                }
            }
            return next;
        }

        /** Chooses the arcs that lie on ways of the least sum: all that lead on with no more than the distance. */
        void choose(Arcs arcs, Arcs chosen) {
            chosen.clear();
            for (int place = 0; place < arcs.size(); place++) {
                long start = sumOf(least, arcs.from(place));
                int length = arcs.lengthAt(place);
                if (start != NONE && start + length == sumOf(least, arcs.to(place))) {
                    chosen.put(arcs.from(place), arcs.to(place), length);
                }
            }
        }

        /** Whether the distances also come out by looking at all arcs over and over until nothing changes. */
        boolean isWhatLessens(Arcs arcs, int from) {
            Arrays.fill(lessened, NONE);
            lessen(lessened, from, 0);
            boolean isChanging = true;
            for (int round = 0; round <= NUMBERS && isChanging; round++) {
                isChanging = lessenAll(arcs);
            }
            for (int town = 0; town < NUMBERS; town++) {
                if (sumOf(lessened, town) != sumOf(least, town)) {
                    return false;
                }
            }
            return !isChanging;
        }

        private boolean lessenAll(Arcs arcs) {
            boolean isChanged = false;
            for (int place = 0; place < arcs.size(); place++) {
                long start = sumOf(lessened, arcs.from(place));
                if (start != NONE && lessen(lessened, arcs.to(place), start + arcs.lengthAt(place))) {
                    isChanged = true;
                }
            }
            return isChanged;
        }
    }

    /** FLOW and LEAST CUT: rows of fewest lines are filled as long as one still carries more. */
    private static final class Pipes {
        /** Each row of fewest lines fills an arc, and an arc is filled 30 times at most. */
        private static final int MOST_ROWS = 30 * MOST_ARCS;

        private final Numbers rests;
        private final Numbers reached;
        private final Numbers queue;

        Pipes() {
            rests = new Numbers(MOST_ARCS, MOST_ARCS);
            reached = new Numbers(NUMBERS, NUMBERS);
            queue = new Numbers(NUMBERS, NUMBERS);
        }

        /** The plain arcs are used, as they have the way back of each arc. */
        long pour(Arcs arcs, Arcs plain, int from, int to) {
            rests.fill(plain.size(), 0);
            for (int place = 0; place < plain.size(); place++) {
                rests.set(place, Math.max(0, arcs.lengthOf(plain.from(place), plain.to(place))));
            }
            long most = 0;
            for (int turn = 0; turn < MOST_ROWS && reaches(plain, from, to); turn++) {
                most += fill(plain, from, to);
            }
            return most;
        }

        /** Of each town that it reaches it notes the arc; of the first one a place that no arc has. */
        private boolean reaches(Arcs plain, int from, int to) {
            reached.fill(NUMBERS, NONE);
            reached.set(from, MOST_ARCS);
            queue.clear();
            queue.add(from);
            for (int next = 0; next < queue.size() && next < NUMBERS; next++) {
                int town = queue.get(next);
                int past = plain.first(town, NUMBERS);
                for (int place = plain.first(town, 0); place < past; place++) {
                    int end = plain.to(place);
                    if (rests.get(place) > 0 && reached.get(end) == NONE) {
                        reached.set(end, place);
                        queue.add(end);
                    }
                }
                if (reached.get(to) != NONE) {
                    return true;
                }
            }
            return false;
        }

        private int fill(Arcs plain, int from, int to) {
            int least = 2 * MOST_LENGTH;
            int at = to;
            for (int turn = 0; turn < NUMBERS && at != from; turn++) {
                least = Math.min(least, rests.get(reached.get(at)));
                at = plain.from(reached.get(at));
            }
            at = to;
            for (int turn = 0; turn < NUMBERS && at != from; turn++) {
                int place = reached.get(at);
                int start = plain.from(place);
                int back = plain.placeOf(at, start);
                rests.set(place, rests.get(place) - least);
                rests.set(back, rests.get(back) + least);
                at = start;
            }
            return least;
        }

        /** What the last search still reached is the LEAST CUT. */
        boolean isInCut(int town) {
            return reached.get(town) != NONE;
        }

        boolean isCutting(Arcs arcs, int place) {
            return isInCut(arcs.from(place)) && !isInCut(arcs.to(place));
        }
    }

    /** The WALK and its ROW. */
    private static final class Walker {
        private final Numbers order;
        private final Numbers wasVisited;
        private final Numbers row;
        private int map;
        private boolean isByDepth;

        Walker() {
            order = new Numbers(NUMBERS, NUMBERS);
            wasVisited = new Numbers(NUMBERS, NUMBERS);
            row = new Numbers(2 * NUMBERS, MOST_IN_ROW);
            map = 0;
            isByDepth = false;
            wasVisited.fill(NUMBERS, 0);
        }

        int map() {
            return map;
        }

        boolean isByDepth() {
            return isByDepth;
        }

        Numbers order() {
            return order;
        }

        Numbers waiting() {
            return row;
        }

        void beginAt(int where, int town, boolean byDepth) {
            map = where;
            isByDepth = byDepth;
            order.clear();
            wasVisited.fill(NUMBERS, 0);
            row.clear();
            row.add(town);
        }

        int goOn(Chart chart) {
            if (row.size() == 0) {
                return EMPTY;
            }
            int town = row.removeAt(isByDepth ? row.size() - 1 : 0);
            if (!chart.has(town)) {
                return NONE;
            }
            if (wasVisited.get(town) == 1) {
                return WAS_VISITED;
            }
            wasVisited.set(town, 1);
            order.add(town);
            putNeighbours(chart.arcs(), town);
            return town;
        }

        private void putNeighbours(Arcs arcs, int town) {
            int start = arcs.first(town, 0);
            int past = arcs.first(town, NUMBERS);
            for (int k = 0; k < past - start; k++) {
                int neighbour = arcs.to(isByDepth ? past - 1 - k : start + k);
                if (wasVisited.get(neighbour) == 0) {
                    row.add(neighbour);
                }
            }
        }
    }

    /** The BASKET: its BIDS by rising prices, of like ones by rising numbers, so the LEAST BID is at place 0. */
    private static final class Offers {
        private final Numbers numbers;
        private final Numbers prices;
        private final Numbers froms;
        private final Numbers tos;
        private int next;

        Offers() {
            numbers = new Numbers(MOST_BIDS, MOST_BIDS);
            prices = new Numbers(MOST_BIDS, MOST_BIDS);
            froms = new Numbers(MOST_BIDS, MOST_BIDS);
            tos = new Numbers(MOST_BIDS, MOST_BIDS);
            next = 0;
        }

        int size() {
            return numbers.size();
        }

        int number(int place) {
            return numbers.get(place);
        }

        int price(int place) {
            return prices.get(place);
        }

        int from(int place) {
            return froms.get(place);
        }

        int to(int place) {
            return tos.get(place);
        }

        int placeOf(int number) {
            return numbers.placeOf(number);
        }

        /** Tells how many there were. */
        int clear() {
            int many = numbers.size();
            numbers.clear();
            prices.clear();
            froms.clear();
            tos.clear();
            return many;
        }

        int add(int from, int to, int price) {
            int place = prices.placeFrom(price + 1);
            numbers.insert(place, next);
            prices.insert(place, price);
            froms.insert(place, from);
            tos.insert(place, to);
            next++;
            return next - 1;
        }

        boolean removeAt(int place) {
            boolean isThere = numbers.removeAt(place) != NONE;
            prices.removeAt(place);
            froms.removeAt(place);
            tos.removeAt(place);
            return isThere;
        }
    }
}
