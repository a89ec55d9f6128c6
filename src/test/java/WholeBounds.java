import java.math.BigInteger;

/** The boundary cases of promises 56 and 57, and the calls that take any arguments in any state. */
public final class WholeBounds {
    private static final BigInteger ROUND = BigInteger.ONE.shiftLeft(64);

    public static void main(String[] args) {
        sound();
        digests();
        digestOfFull();
        lastCalls();
        anyArguments();
        Check.end();
    }

    private static void sound() {
        Script.play("56: without towns, with one, with two", """
                isSound() = true
                town(0, 99) = true
                isSound() = true
                town(1, 0) = true
                isSound() = true
                town(0, 0) = true
                isSound() = true
                line(0, 0, 99, 0) = -1
                isSound() = true
                """);
        Script.play("56: some part is not even, in the second map alone", """
                settle(0, 1, 4, 1) = 4
                ring(0, 1, 1, 0) = 4
                settle(1, 1, 3, 1) = 3
                ring(1, 1, 1, 0) = 3
                isSound() = true
                """);
        Script.play("56: full of towns, lines, bids, and a row of more than 100", Script.FULL + Script.FULL_DIRECTED + """
                60 times bid(0, 0, 1)
                begin(1, 0, true) = 0
                walk(60) = 60
                isSound() = true
                turn(1) = 400
                isSound() = true
                """);
        Script.play("56: lengths of 0 and of 1000000000", """
                settle(0, 0, 60, 1) = 60
                ring(0, 1, 1000000000, 0) = 60
                ring(0, 7, 0, 0) = 60
                isSound() = true
                ring(0, 1, 0, 0) = 60
                isSound() = true
                fan(0, 0, 1000000000, 0) = 59
                fan(0, 59, 1000000000, 0) = 59
                isSound() = true
                """);
    }

    /** What is asked goes into the digest only with towns, with two towns, with some VISITED. */
    private static void digests() {
        Mapgraph x = new Mapgraph();
        digest("of a new one", x, 0);
        x.town(0, 7);
        digest("with one town", x, 0);
        x.town(1, 99);
        x.town(1, 0);
        digest("with two towns", x, 0);
        x.line(1, 99, 0, 1000000000);
        digest("with a line", x, 0);
        x.begin(1, 99, true);
        digest("with one in the row", x, 0);
        x.step();
        digest("with one visited", x, 0);
        x.bid(1, 0, 99);
        digest("with a bid", x, 0);
        x.knock();
        digest("with one that knocked", x, 1);
        x.open(1, true);
        digest("with a map begun anew", x, 1);
        x.settle(1, 0, 60, 1);
        x.lattice(1, 20, 999999999, 1000000000);
        digest("with 60 towns", x, 1);
        x.copy(0);
        digest("with like maps", x, 1);
    }

    private static void digestOfFull() {
        Mapgraph x = new Mapgraph();
        Script.playOn("setup", Script.FULL + Script.FULL_DIRECTED, x, new Model());
        digest("with 400 lines", x, 0);
        for (int k = 0; k < 60; k++) {
            x.bid(0, k, (k + 1) % 60);
        }
        digest("with 60 bids", x, 0);
        x.begin(0, 59, true);
        for (int step = 0; step < 12; step++) {
            x.walk(5);
            digest("in the walk", x, 0);
        }
        x.line(1, 0, 1, 1000000000);
        x.raze(0, 0);
        digest("with one visited that is lost", x, 0);
    }

    /** Put together by the promise's words, from what the calls answer. */
    private static void digest(String when, Mapgraph x, int knocked) {
        BigInteger d = BigInteger.valueOf(4811);
        for (int map = 0; map < 2; map++) {
            for (int what = 0; what <= 10; what++) {
                d = then(d, x.ofMap(map, what));
            }
            d = then(then(d, x.sums(map, 0)), x.sums(map, 1));
            d = ofTowns(d, x, map);
            d = then(then(d, x.treeLines(map).length()), x.keys(map, true).length());
            d = then(then(d, x.keys(map, false).length()), x.odd(map).length());
            int first = x.ofMap(map, 3);
            int last = x.ofMap(map, 4);
            if (first >= 0) {
                d = row(d, x.settled(map, first));
            }
            if (first != last) {
                d = then(d, x.flow(map, first, last));
                d = then(d, x.cut(map, first, last, true).length());
                d = then(d, x.cut(map, first, last, false).length());
            }
        }
        d = ofDesk(d, x, knocked);
        Check.due("57: digest " + when, x.digest(), d.longValue());
    }

    private static BigInteger ofTowns(BigInteger before, Mapgraph x, int map) {
        BigInteger d = before;
        int left = x.ofMap(map, 0);
        for (int town = x.ofMap(map, 3); left > 0; town++) {
            if (isTown(x, map, town)) {
                for (int what = 0; what <= 11; what++) {
                    d = then(d, x.ofTown(map, town, what));
                }
                d = then(then(d, x.near(map, x.ofMap(map, 3), town)), x.lines(map, town).length());
                left--;
            }
        }
        return d;
    }

    private static boolean isTown(Mapgraph x, int map, int town) {
        try {
            return x.hops(map, town, town) == 0;
        } catch (IndexOutOfBoundsException e) {
            return false;
        }
    }

    private static BigInteger ofDesk(BigInteger before, Mapgraph x, int knocked) {
        BigInteger d = before;
        for (int what = 0; what <= 3; what++) {
            d = then(d, x.common(what));
        }
        for (int what = 0; what <= 5; what++) {
            d = then(d, x.ofWalk(what));
        }
        d = row(d, x.visited());
        d = then(then(then(d, x.rowLook(true)), x.rowLook(false)), x.row(true).length());
        for (int what = 0; what <= 3; what++) {
            d = then(d, x.bidLook(what));
        }
        d = then(then(d, x.bids().isEmpty() ? 0 : x.bids().split(" ").length), x.bids().length());
        return then(then(d, knocked), x.isSound() ? 1 : 0);
    }

    /** The 512th call answers as the first ones do. */
    private static void lastCalls() {
        Mapgraph x = new Mapgraph();
        x.settle(0, 0, 60, 1);
        x.ring(0, 1, 1, 0);
        for (int call = 3; call <= 509; call++) {
            Check.due("call " + call, x.near(0, 0, call % 60), Math.min(call % 60, 60 - call % 60));
        }
        Check.due("call 510", x.knock(), 1);
        Check.due("call 511", x.ofMap(0, 1), 60);
        Check.due("call 512", x.isSound(), true);
    }

    /** Calls without a bound of their own take any number and answer in any state. */
    private static void anyArguments() {
        int[] numbers = {Integer.MIN_VALUE, -9, -1, 0, 60, 100, Integer.MAX_VALUE};
        Mapgraph x = new Mapgraph();
        for (int number : numbers) {
            Check.due("bidDrop(" + number + ")", x.bidDrop(number), false);
        }
        Check.due("rowTake", x.rowTake(true) + x.rowTake(false), -18);
        Check.due("rowLook", x.rowLook(true) + x.rowLook(false), -18);
        Check.due("step, bidTake", x.step() + x.bidTake(), -18);
        Check.due("texts", x.visited() + x.row(true) + x.row(false) + x.bids(), "");
        Check.due("nothing is changed", Check.stateOf(x), Check.stateOf(new Mapgraph()));
    }

    private static BigInteger row(BigInteger before, String towns) {
        BigInteger d = before;
        for (String town : towns.isEmpty() ? new String[0] : towns.split("-")) {
            d = then(d, Long.parseLong(town));
        }
        return d;
    }

    private static BigInteger then(BigInteger d, long v) {
        return d.multiply(BigInteger.valueOf(31)).add(BigInteger.valueOf(v)).mod(ROUND);
    }
}
