/** Promises 1 to 6: a new object, open, town, settle, raze, keep. */
public final class TownTests {
    public static void main(String[] args) {
        newObject();
        open();
        town();
        settle();
        raze();
        keep();
        Check.end();
    }

    private static void newObject() {
        Mapgraph x = new Mapgraph();
        for (int map = 0; map < 2; map++) {
            Check.due("towns of a new map", x.ofMap(map, 0), 0);
            Check.due("lines of a new map", x.ofMap(map, 1), 0);
            Check.due("a new map is not directed", x.ofMap(map, 2), 0);
        }
        Check.due("map of a new walk", x.ofWalk(0), 0);
        Check.due("a new walk is by breadth", x.ofWalk(1), 0);
        Check.due("visited of a new walk", x.ofWalk(2), 0);
        Check.due("row of a new walk", x.ofWalk(3), 0);
        Check.due("last visited of a new walk", x.ofWalk(4), -1);
        Check.due("bids of a new basket", x.bids(), "");
        Check.due("first knock", x.knock(), 1);
        Check.due("a new object is sound", x.isSound(), true);
    }

    private static void open() {
        Mapgraph x = new Mapgraph();
        Check.due("open a new one", x.open(1, true), 0);
        Check.due("it is directed", x.ofMap(1, 2), 1);
        Check.due("the other is not", x.ofMap(0, 2), 0);
        x.settle(1, 3, 4, 2);
        x.line(1, 3, 5, 8);
        Check.due("open again", x.open(1, false), 4);
        Check.due("it is empty", Check.mapOf(x, 1), "both");
        x.settle(1, 3, 4, 2);
        Check.due("no line came back", x.length(1, 3, 5), -1);
        Check.noIndex(x, "open(2)", () -> x.open(2, true));
        Check.noIndex(x, "open(-1)", () -> x.open(-1, false));
    }

    private static void town() {
        Mapgraph x = new Mapgraph();
        Check.due("town(0, 0)", x.town(0, 0), true);
        Check.due("town(0, 99)", x.town(0, 99), true);
        Check.due("town(0, 99) again", x.town(0, 99), false);
        Check.due("towns", Check.mapOf(x, 0), "both 0() 99()");
        Check.due("the other map has none", x.ofMap(1, 0), 0);
        Check.noIndex(x, "town(2, -1)", () -> x.town(2, -1));
        Check.noArgument(x, "town(0, 100)", () -> x.town(0, 100));
        Check.noArgument(x, "town(0, -1)", () -> x.town(0, -1));
        x.settle(0, 1, 58, 1);
        Check.due("60 towns", x.ofMap(0, 0), 60);
        Check.noState(x, "a 61st town", () -> x.town(0, 60));
        Check.noArgument(x, "the argument goes ahead of the state", () -> x.town(0, 100));
        Check.due("one that is there", x.town(0, 58), false);
        Check.due("the other map has room", x.town(1, 60), true);
    }

    private static void settle() {
        Mapgraph x = new Mapgraph();
        Check.due("settle above 99", x.settle(0, 95, 9, 2), 3);
        Check.due("settle towns that are there", x.settle(0, 94, 6, 1), 3);
        Check.due("towns", Check.mapOf(x, 0), "both 94() 95() 96() 97() 98() 99()");
        Check.due("settle one", x.settle(1, 0, 1, 9), 1);
        Check.due("settle by nines", x.settle(1, 0, 60, 9), 11);
        Check.due("settle until there are 60", x.settle(1, 1, 60, 1), 48);
        Check.due("60 towns", x.ofMap(1, 0), 60);
        Check.due("the greatest that came in", x.length(1, 54, 0), -1);
        Check.due("settle from the greatest number on", new Mapgraph().settle(0, 99, 60, 1), 1);
        Check.due("settle into a full map", x.settle(1, 70, 9, 1), 0);
        Check.noIndex(x, "settle(2)", () -> x.settle(2, -1, 0, 0));
        Check.noArgument(x, "first -1", () -> x.settle(0, -1, 1, 1));
        Check.noArgument(x, "first 100", () -> x.settle(0, 100, 1, 1));
        Check.noArgument(x, "many 0", () -> x.settle(0, 0, 0, 1));
        Check.noArgument(x, "many 61", () -> x.settle(0, 0, 61, 1));
        Check.noArgument(x, "step 0", () -> x.settle(0, 0, 1, 0));
        Check.noArgument(x, "step 10", () -> x.settle(0, 0, 1, 10));
    }

    private static void raze() {
        Mapgraph x = new Mapgraph();
        x.open(0, true);
        x.settle(0, 1, 4, 1);
        x.line(0, 1, 2, 5);
        x.line(0, 2, 1, 6);
        x.line(0, 3, 2, 7);
        x.line(0, 3, 4, 8);
        Check.due("raze a town of three lines", x.raze(0, 2), 3);
        Check.due("what is left", Check.mapOf(x, 0), "directed 1() 3(4:8) 4()");
        Check.due("raze a town without lines", x.raze(0, 1), 0);
        Check.noIndex(x, "raze it again", () -> x.raze(0, 1));
        Check.noIndex(x, "raze(2)", () -> x.raze(2, 3));
        x.town(0, 2);
        Check.due("its lines do not come back", x.length(0, 3, 2), -1);
        x.settle(1, 1, 3, 1);
        x.ring(1, 1, 4, 0);
        Check.due("raze where lines lead both ways", x.raze(1, 3), 2);
        Check.due("what is left", Check.mapOf(x, 1), "both 1(2:4) 2(1:4)");
    }

    private static void keep() {
        Mapgraph x = new Mapgraph();
        x.settle(0, 0, 10, 1);
        x.fan(0, 4, 1, 0);
        x.settle(1, 1, 4, 3);
        Check.due("keep", x.keep(0), 7);
        Check.due("what is left", Check.mapOf(x, 0), "both 1(4:1) 4(1:1 7:1) 7(4:1)");
        Check.due("the other is as it was", x.ofMap(1, 0), 4);
        Check.due("keep the other", x.keep(1), 1);
        Check.due("keep again", x.keep(1), 0);
        x.open(1, false);
        Check.due("keep nothing", x.keep(0), 3);
        Check.due("no lines", x.ofMap(0, 1), 0);
        Check.noIndex(x, "keep(2)", () -> x.keep(2));
        Check.noIndex(x, "keep(-1)", () -> x.keep(-1));
    }
}
