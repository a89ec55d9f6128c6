import com.sun.management.ThreadMXBean;
import java.lang.management.ManagementFactory;

/**
 * An object is used for 512 calls, and all that a run makes lives in one room: some 600,000 objects and arrays, 7.3
 * million fields and elements. No field or element takes less than a byte and no object less than sixteen, so a run that
 * makes fewer than 7.3 million bytes stays in it. Here the dearest calls are made 512 times.
 */
public final class RoomTests {
    private static final long ROOM = 7300000;
    private static final int CALLS = 512;
    private static final ThreadMXBean MEMORY = (ThreadMXBean) ManagementFactory.getThreadMXBean();

    private interface Run {
        long make(Mapgraph x, int call);
    }

    public static void main(String[] args) {
        asks();
        acts();
        refusedCalls();
        objects();
        Check.end();
    }

    /** Two full maps; the greatest texts; the greatest searches. */
    private static void asks() {
        spend("digest", RoomTests::fill, (x, call) -> x.digest());
        spend("isSound", RoomTests::fill, (x, call) -> x.isSound() ? 1 : 0);
        spend("cut along 361 lines", RoomTests::fillBetweenHalves, (x, call) -> x.cut(0, 0, 39, true).length());
        spend("cut", RoomTests::fillBetweenHalves, (x, call) -> x.cut(0, call % 39, 39, false).length());
        spend("lines", RoomTests::fillFan, (x, call) -> x.lines(0, 0).length());
        spend("nearWay", RoomTests::fillRow, (x, call) -> x.nearWay(0, 0, 59).length());
        spend("hopWay", RoomTests::fillRow, (x, call) -> x.hopWay(0, 59, 0).length());
        spend("settled", RoomTests::fillRow, (x, call) -> x.settled(0, call % 60).length());
        spend("treeLines", RoomTests::fillRow, (x, call) -> x.treeLines(0).length());
        spend("treeWay", RoomTests::fillRow, (x, call) -> x.treeWay(0, 0, 59).length());
        spend("keys", RoomTests::fillRow, (x, call) -> x.keys(0, call % 2 == 0).length());
        spend("bids", RoomTests::fillRow, (x, call) -> (call < 60 ? x.bid(0, 0, 1) : 0) + x.bids().length());
    }

    /** Each act on a full map makes all that is known of it to be found out again. */
    private static void acts() {
        spend("line", RoomTests::fill, (x, call) -> x.line(0, 0, 1, call) + (call % 2 == 0 ? x.ofMap(0, 8) : 0));
        spend("turn", RoomTests::fill, (x, call) -> x.turn(1) + x.ofMap(1, 8));
        spend("copy", RoomTests::fill, (x, call) -> x.copy(call % 2) + x.ofMap(call % 2, 8));
        spend("open and join", RoomTests::fill, (x, call) -> call % 2 == 0 ? x.open(0, true) : x.join(0));
        spend("begin and walk", RoomTests::fill, (x, call) -> call % 2 == 0 ? x.begin(0, 0, true) : x.walk(60));
        spend("bid and basket", RoomTests::fillRow, (x, call) -> call % 9 < 8 ? x.bid(0, 0, 1) : x.basket(99));
    }

    private static void refusedCalls() {
        spend("calls that throw", RoomTests::fill, (x, call) -> {
            try {
                return call % 2 == 0 ? x.ofTown(0, 60, 0) : x.line(0, 0, 30, 5);
            } catch (IndexOutOfBoundsException | IllegalStateException e) {
                return 0;
            }
        });
    }

    /** A run that makes one object after the other. */
    private static void objects() {
        long before = MEMORY.getCurrentThreadAllocatedBytes();
        for (int k = 0; k < 50; k++) {
            new Mapgraph().knock();
        }
        due("50 objects", MEMORY.getCurrentThreadAllocatedBytes() - before);
    }

    private interface Setup {
        void make(Mapgraph x);
    }

    private static void spend(String told, Setup setup, Run run) {
        long before = MEMORY.getCurrentThreadAllocatedBytes();
        Mapgraph x = new Mapgraph();
        setup.make(x);
        for (int call = 0; call < CALLS; call++) {
            run.make(x, call);
        }
        due(CALLS + " times " + told, MEMORY.getCurrentThreadAllocatedBytes() - before);
        Check.due("sound after " + told, x.isSound(), true);
    }

    private static void due(String told, long bytes) {
        Check.due(told + " makes " + bytes + " bytes, which fit", bytes < ROOM, true);
    }

    private static void fill(Mapgraph x) {
        x.open(1, true);
        for (int map = 0; map < 2; map++) {
            x.settle(map, 0, 60, 1);
            for (int leap = 1; leap <= 7; leap++) {
                x.ring(map, leap, 1000000000, 987654321);
            }
        }
    }

    /** Of 19 towns each has a short line to each of 19 others; all other lines are long. */
    private static void fillBetweenHalves(Mapgraph x) {
        x.open(0, true);
        x.settle(0, 0, 40, 1);
        for (int a = 1; a < 20; a++) {
            x.line(0, 0, a, 1000000000);
            for (int b = 20; b < 39; b++) {
                x.line(0, a, b, 1);
            }
            x.line(0, a + 19, 39, 1000000000);
        }
        Check.due("lines of the cut", x.cut(0, 0, 39, true).split(" ").length, 361);
    }

    private static void fillFan(Mapgraph x) {
        x.settle(0, 0, 60, 1);
        x.fan(0, 0, 1000000000, 0);
    }

    private static void fillRow(Mapgraph x) {
        x.settle(0, 0, 60, 1);
        x.lattice(0, 1, 1000000000, 0);
    }
}
