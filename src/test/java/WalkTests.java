/** Promises 17 to 23 and 38 to 40: the walk and its row. */
public final class WalkTests {
    public static void main(String[] args) {
        begin();
        stepByBreadth();
        stepByDepth();
        walk();
        rowPut();
        rowTakeAndLook();
        rowDrop();
        ofWalk();
        texts();
        longRow();
        Check.end();
    }

    private static Mapgraph star() {
        Mapgraph x = new Mapgraph();
        x.settle(0, 0, 8, 1);
        x.line(0, 0, 1, 1);
        x.line(0, 0, 2, 1);
        x.line(0, 0, 3, 1);
        x.line(0, 1, 4, 1);
        x.line(0, 1, 2, 1);
        x.line(0, 3, 5, 1);
        return x;
    }

    private static void begin() {
        Mapgraph x = star();
        Check.due("begin", x.begin(0, 0, true), 0);
        x.step();
        Check.due("begin again", x.begin(0, 7, false), 3);
        Check.due("one in the row", x.row(true), "7");
        Check.due("none visited", x.visited(), "");
        Check.due("by breadth", x.ofWalk(1), 0);
        Check.noIndex(x, "no such map", () -> x.begin(2, 0, true));
        Check.noIndex(x, "no such town", () -> x.begin(0, 8, true));
        Check.noIndex(x, "no such town of that map", () -> x.begin(1, 0, true));
        x.town(1, 9);
        Check.due("in the other map", x.begin(1, 9, true), 1);
        Check.due("map", x.ofWalk(0), 1);
    }

    private static void stepByBreadth() {
        Mapgraph x = star();
        Check.due("an empty row", x.step(), -9);
        x.begin(0, 0, false);
        Check.due("the first", x.step(), 0);
        Check.due("rising numbers", x.row(true), "1-2-3");
        Check.due("next", x.step(), 1);
        Check.due("those not visited come to the end", x.row(true), "2-3-2-4");
        Check.due("next", x.step(), 2);
        Check.due("next", x.step(), 3);
        Check.due("visited already", x.step(), -2);
        Check.due("it is taken away all the same", x.row(true), "4-5");
        x.raze(0, 4);
        Check.due("no such town now", x.step(), -1);
        Check.due("it is taken away all the same", x.row(true), "5");
        Check.due("visited", x.visited(), "0-1-2-3");
        x.raze(0, 5);
        x.town(0, 5);
        Check.due("founded anew", x.step(), 5);
        Check.due("at the end", x.step(), -9);
    }

    private static void stepByDepth() {
        Mapgraph x = star();
        x.begin(0, 0, true);
        Check.due("the first", x.step(), 0);
        Check.due("falling numbers", x.row(true), "3-2-1");
        Check.due("the last of the row", x.step(), 1);
        Check.due("row", x.row(true), "3-2-4-2");
        Check.due("next", x.step(), 2);
        Check.due("next", x.step(), 4);
        Check.due("visited already", x.step(), -2);
        Check.due("next", x.step(), 3);
        Check.due("next", x.step(), 5);
        Check.due("visited", x.visited(), "0-1-2-4-3-5");
        Check.due("at the end", x.step(), -9);
        Mapgraph y = new Mapgraph();
        y.open(0, true);
        y.settle(0, 0, 3, 1);
        y.line(0, 1, 0, 1);
        y.line(0, 0, 2, 1);
        y.begin(0, 0, false);
        y.step();
        Check.due("only where lines lead to", y.row(true), "2");
    }

    private static void walk() {
        Mapgraph x = star();
        x.begin(0, 0, false);
        Check.due("one step", x.walk(1), 1);
        Check.due("four steps, one of them at a town visited already", x.walk(4), 3);
        Check.due("what is left", x.walk(60), 2);
        Check.due("an empty row", x.walk(60), 0);
        Check.due("visited", x.visited(), "0-1-2-3-4-5");
        Check.noArgument(x, "many 0", () -> x.walk(0));
        Check.noArgument(x, "many 61", () -> x.walk(61));
        x.begin(0, 6, false);
        x.rowPut(7, true);
        x.raze(0, 7);
        Check.due("a town that is lost counts as a step", x.walk(1), 0);
        Check.due("row", x.row(true), "6");
    }

    private static void rowPut() {
        Mapgraph x = star();
        Check.due("at the end", x.rowPut(4, false), 1);
        Check.due("at the front", x.rowPut(5, true), 2);
        Check.due("twice", x.rowPut(4, false), 3);
        Check.due("row", x.row(true), "5-4-4");
        Check.due("no such town", x.rowPut(8, true), -8);
        Check.due("row", x.row(true), "5-4-4");
        Check.noArgument(x, "town -1", () -> x.rowPut(-1, true));
        Check.noArgument(x, "town 100", () -> x.rowPut(100, true));
        for (int k = 4; k <= 100; k++) {
            Check.due("put", x.rowPut(k % 8, k % 2 == 0), k);
        }
        Check.noState(x, "more than 100", () -> x.rowPut(0, true));
        Check.noState(x, "the state goes ahead of VOID", () -> x.rowPut(8, true));
        Check.noArgument(x, "the argument goes ahead of the state", () -> x.rowPut(100, true));
        x.town(1, 90);
        x.begin(1, 90, false);
        Check.due("a town of the map of the walk", x.rowPut(90, true), 2);
        Check.due("not of the other map", x.rowPut(0, true), -8);
    }

    private static void rowTakeAndLook() {
        Mapgraph x = star();
        Check.due("nothing to take", x.rowTake(true), -9);
        Check.due("nothing to take", x.rowTake(false), -9);
        Check.due("nothing to look at", x.rowLook(true), -9);
        Check.due("nothing to look at", x.rowLook(false), -9);
        x.rowPut(3, false);
        x.rowPut(1, false);
        x.rowPut(0, false);
        Check.due("first", x.rowLook(true), 3);
        Check.due("last", x.rowLook(false), 0);
        Check.due("it stays", x.row(true), "3-1-0");
        Check.due("take the first", x.rowTake(true), 3);
        Check.due("take the last", x.rowTake(false), 0);
        Check.due("row", x.row(true), "1");
        Check.due("take the only one", x.rowTake(false), 1);
        Check.due("row", x.row(true), "");
    }

    private static void rowDrop() {
        Mapgraph x = star();
        int[] towns = {1, 2, 3, 2, 0};
        for (int town : towns) {
            x.rowPut(town, false);
        }
        Check.due("the first place only", x.rowDrop(2), true);
        Check.due("row", x.row(true), "1-3-2-0");
        Check.due("not there", x.rowDrop(7), false);
        Check.due("no such town", x.rowDrop(99), false);
        Check.due("the last", x.rowDrop(0), true);
        Check.due("the first", x.rowDrop(1), true);
        Check.due("row", x.row(true), "3-2");
        Check.noArgument(x, "town -1", () -> x.rowDrop(-1));
        Check.noArgument(x, "town 100", () -> x.rowDrop(100));
        x.raze(0, 3);
        Check.due("a town that is lost", x.rowDrop(3), true);
    }

    private static void ofWalk() {
        Mapgraph x = star();
        x.copy(1);
        x.begin(1, 0, true);
        x.walk(3);
        int[] due = {1, 1, 3, 3, 2, 3};
        for (int what = 0; what <= 5; what++) {
            if (what != 3 && what != 4) {
                Check.due("ofWalk " + what, x.ofWalk(what), due[what]);
            }
        }
        Check.due("visited", x.visited(), "0-1-2");
        Check.due("last", x.ofWalk(4), 2);
        Check.due("row", x.ofWalk(3), 3);
        x.raze(1, 1);
        Check.due("visited still", x.ofWalk(2), 3);
        Check.due("towns now", x.ofWalk(5), 2);
        Check.noArgument(x, "what -1", () -> x.ofWalk(-1));
        Check.noArgument(x, "what 6", () -> x.ofWalk(6));
    }

    private static void texts() {
        Mapgraph x = new Mapgraph();
        Check.due("none visited", x.visited(), "");
        Check.due("an empty row", x.row(false), "");
        x.settle(0, 0, 40, 1);
        for (int k = 0; k < 31; k++) {
            x.rowPut(k, false);
        }
        Check.due("the first 30", x.row(true),
                "0-1-2-3-4-5-6-7-8-9-10-11-12-13-14-15-16-17-18-19-20-21-22-23-24-25-26-27-28-29");
        Check.due("the last 30, backwards", x.row(false),
                "30-29-28-27-26-25-24-23-22-21-20-19-18-17-16-15-14-13-12-11-10-9-8-7-6-5-4-3-2-1");
        x.walk(3);
        Check.due("visited", x.visited(), "0-1-2");
    }

    /** Steps make the row longer than 100, and all 100 numbers can be visited. */
    private static void longRow() {
        Mapgraph x = new Mapgraph();
        x.settle(0, 0, 60, 1);
        for (int leap = 1; leap <= 6; leap++) {
            x.ring(0, leap, 1, 0);
        }
        x.begin(0, 0, true);
        Check.due("all by depth", x.walk(60), 60);
        Check.due("a long row", x.ofWalk(3), 301);
        Check.noState(x, "nothing is put into it", () -> x.rowPut(0, false));
        for (int k = 0; k < 201; k++) {
            x.rowTake(true);
        }
        Check.noState(x, "nor with 100", () -> x.rowPut(0, false));
        x.rowTake(false);
        Check.due("but with 99", x.rowPut(7, false), 100);
        Check.due("what was visited is not visited again", x.walk(60), 0);
        Check.due("40 are left", x.ofWalk(3), 40);
        x.open(0, false);
        x.settle(0, 40, 60, 1);
        for (int leap = 1; leap <= 6; leap++) {
            x.ring(0, leap, 1, 0);
        }
        x.rowPut(60, false);
        for (int round = 0; round < 6; round++) {
            x.walk(60);
        }
        Check.due("100 visited", x.ofWalk(2), 100);
        Check.due("60 of them are towns", x.ofWalk(5), 60);
    }
}
