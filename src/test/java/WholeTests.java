/** Promises 56 and 57: isSound and digest. */
public final class WholeTests {
    public static void main(String[] args) {
        sound();
        digestOfNew();
        digestHoldsAll();
        digestChangesNothing();
        digestOfMuch();
        Check.end();
    }

    private static void sound() {
        Mapgraph x = new Mapgraph();
        Check.due("new", x.isSound(), true);
        x.open(0, true);
        x.settle(0, 0, 60, 1);
        for (int leap = 1; leap <= 7; leap++) {
            x.ring(0, leap, leap * 99999999, 987654321);
            Check.due("sound", x.isSound(), true);
        }
        x.settle(1, 2, 9, 9);
        x.ring(1, 1, 5, 5);
        Check.due("odd and even", x.isSound(), true);
        x.raze(1, 11);
        Check.due("even", x.isSound(), true);
        x.copy(1);
        x.keep(0);
        x.turn(0);
        Check.due("sound", x.isSound(), true);
    }

    /** Put together by hand: what an empty map, walk and basket tell. */
    private static void digestOfNew() {
        long[] ofMap = {0, 0, 0, -9, -9, 0, 0, 0, 0, 0, -1, 0, 0, 0, 0, 0, 0};
        long[] desk = {0, 0, 0, 1, 0, 0, 0, 0, -1, 0, -9, -9, 0, -9, -9, -9, -9, 0, 0, 0, 1};
        long d = 4811;
        for (int map = 0; map < 2; map++) {
            for (long v : ofMap) {
                d = d * 31 + v;
            }
        }
        for (long v : desk) {
            d = d * 31 + v;
        }
        Check.due("digest of a new one", new Mapgraph().digest(), d);
    }

    /** Each act gives another digest. */
    private static void digestHoldsAll() {
        Mapgraph x = new Mapgraph();
        long[] seen = new long[20];
        int many = 0;
        seen[many++] = x.digest();
        x.town(1, 5);
        seen[many++] = x.digest();
        x.town(1, 6);
        seen[many++] = x.digest();
        x.line(1, 5, 6, 3);
        seen[many++] = x.digest();
        x.begin(1, 5, false);
        seen[many++] = x.digest();
        x.step();
        seen[many++] = x.digest();
        x.bid(1, 6, 5);
        seen[many++] = x.digest();
        x.knock();
        seen[many++] = x.digest();
        x.open(0, true);
        seen[many++] = x.digest();
        for (int i = 0; i < many; i++) {
            for (int k = 0; k < i; k++) {
                Check.due("digest " + i + " is unlike " + k, seen[i] == seen[k], false);
            }
        }
    }

    private static void digestChangesNothing() {
        Mapgraph x = new Mapgraph();
        x.settle(0, 1, 20, 3);
        x.ring(0, 1, 9, 9);
        x.begin(0, 1, true);
        x.walk(5);
        x.bid(0, 1, 4);
        String before = Check.stateOf(x);
        Check.due("sound", x.isSound(), true);
        Check.due("nothing is changed", Check.stateOf(x), before);
    }

    /** Two full maps, a long row that is told otherwise from its other end, and a full basket. */
    private static void digestOfMuch() {
        Mapgraph x = new Mapgraph();
        Model y = new Model();
        x.open(1, true);
        y.open(1, true);
        for (int map = 0; map < 2; map++) {
            Check.due("settle", x.settle(map, map * 40, 60, 1), y.settle(map, map * 40, 60, 1));
            for (int leap = 1; leap <= 7; leap++) {
                int more = leap % 2 == 0 ? 1 : 987654321;
                Check.due("ring", x.ring(map, leap, leap, more), y.ring(map, leap, leap, more));
            }
        }
        Check.due("begin", x.begin(0, 30, true), y.begin(0, 30, true));
        Check.due("walk", x.walk(60), y.walk(60));
        for (int k = 0; k < 280; k++) {
            Check.due("take", x.rowTake(k % 2 == 0), y.rowTake(k % 2 == 0));
        }
        for (int k = 0; k < 30; k++) {
            Check.due("put", x.rowPut(k % 10, true), y.rowPut(k % 10, true));
        }
        for (int k = 0; k < 60; k++) {
            int bid = x.bid(k % 2, 40 + k % 20, 41 + k % 20);
            Check.due("bid", bid, y.bid(k % 2, 40 + k % 20, 41 + k % 20));
        }
        x.knock();
        y.knock();
        Check.due("the row from both ends", x.row(true).length() == x.row(false).length(), false);
        Check.due("digest of full maps", x.digest(), y.digest());
    }
}
