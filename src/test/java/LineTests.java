/** Promises 7 to 16: line, unline, ring, fan, lattice, stretch, prune, turn, copy, join. */
public final class LineTests {
    public static void main(String[] args) {
        line();
        unline();
        ring();
        fan();
        lattice();
        stretch();
        prune();
        turn();
        copy();
        join();
        full();
        Check.end();
    }

    private static void line() {
        Mapgraph x = new Mapgraph();
        x.settle(0, 1, 3, 1);
        Check.due("a new line", x.line(0, 2, 1, 0), -1);
        Check.due("the same line from the other end", x.line(0, 1, 2, 1000000000), 0);
        Check.due("its length from both ends", Check.mapOf(x, 0), "both 1(2:1000000000) 2(1:1000000000) 3()");
        Check.due("it counts once", x.ofMap(0, 1), 1);
        x.open(1, true);
        x.settle(1, 1, 3, 1);
        Check.due("a directed line", x.line(1, 2, 1, 3), -1);
        Check.due("one back", x.line(1, 1, 2, 4), -1);
        Check.due("the first again", x.line(1, 2, 1, 5), 3);
        Check.due("two lines", Check.mapOf(x, 1), "directed 1(2:4) 2(1:5) 3()");
        Check.due("they count twice", x.ofMap(1, 1), 2);
        Check.noIndex(x, "no such map", () -> x.line(2, 1, 1, -1));
        Check.noIndex(x, "no town from", () -> x.line(0, 4, 1, -1));
        Check.noIndex(x, "no town to", () -> x.line(0, 1, 100, 1));
        Check.noIndex(x, "no town, from is to", () -> x.line(0, 9, 9, 1));
        Check.noArgument(x, "from is to", () -> x.line(0, 1, 1, 1));
        Check.noArgument(x, "length -1", () -> x.line(0, 1, 2, -1));
        Check.noArgument(x, "length too great", () -> x.line(0, 1, 2, 1000000001));
    }

    /** With 400 lines nothing new fits, but a line that is there gets its length. */
    private static void full() {
        Mapgraph x = new Mapgraph();
        x.settle(0, 0, 60, 1);
        for (int leap = 1; leap <= 6; leap++) {
            Check.due("ring " + leap, x.ring(0, leap, leap, 0), 60);
        }
        Check.due("only 40 of a ring fit", x.ring(0, 7, 10, 1), 40);
        Check.due("400 lines", x.ofMap(0, 1), 400);
        Check.due("the 40th", x.length(0, 39, 46), 49);
        Check.due("not the 41st", x.length(0, 40, 47), -1);
        Check.noState(x, "a new line", () -> x.line(0, 0, 30, 1));
        Check.noArgument(x, "the argument goes ahead", () -> x.line(0, 0, 30, -1));
        Check.due("a line that is there", x.line(0, 1, 0, 9), 1);
        Check.due("fan lays only what is there", x.fan(0, 30, 100, 1), 14);
        Check.due("the counts of the others are used up", x.length(0, 30, 31), 130);
        Check.due("400 lines still", x.ofMap(0, 1), 400);
        x.open(1, true);
        x.settle(1, 40, 60, 1);
        x.line(1, 70, 99, 3);
        Check.due("join in a full map", x.join(0), 0);
        Check.due("join brings each of both ways", x.join(1), 198);
        for (int k = 0; k < 12; k++) {
            x.fan(1, 40 + k, 5, 0);
        }
        Check.due("400 directed lines", x.ofMap(1, 1), 400);
        Check.noState(x, "a line back", () -> x.line(1, 99, 70, 1));
        Check.due("it is sound", x.isSound(), true);
    }

    private static void unline() {
        Mapgraph x = new Mapgraph();
        x.open(0, true);
        x.settle(0, 1, 3, 1);
        x.line(0, 1, 2, 7);
        x.line(0, 2, 1, 0);
        Check.due("unline", x.unline(0, 1, 2), 7);
        Check.due("again", x.unline(0, 1, 2), -1);
        Check.due("the one back stays", Check.mapOf(x, 0), "directed 1() 2(1:0) 3()");
        Check.due("to itself", x.unline(0, 1, 1), -1);
        x.settle(1, 1, 2, 1);
        x.line(1, 1, 2, 7);
        Check.due("from the other end", x.unline(1, 2, 1), 7);
        Check.due("it leads neither way", Check.mapOf(x, 1), "both 1() 2()");
        Check.noIndex(x, "no such map", () -> x.unline(-1, 1, 2));
        Check.noIndex(x, "no town from", () -> x.unline(0, 4, 2));
        Check.noIndex(x, "no town to", () -> x.unline(0, 1, -1));
    }

    private static void ring() {
        Mapgraph x = new Mapgraph();
        x.open(0, true);
        x.settle(0, 10, 4, 9);
        Check.due("ring", x.ring(0, 1, 999999999, 1), 4);
        Check.due("lengths go round", Check.mapOf(x, 0),
                "directed 10(19:999999999) 19(28:1000000000) 28(37:0) 37(10:1)");
        Check.due("leap", x.ring(0, 3, 1000000000, 1000000000), 4);
        Check.due("great sums", Check.mapOf(x, 0),
                "directed 10(19:999999999 37:1000000000) 19(10:999999999 28:1000000000) 28(19:999999998 37:0)"
                        + " 37(10:1 28:999999997)");
        x.settle(1, 10, 4, 9);
        Check.due("each laid twice counts twice", x.ring(1, 2, 5, 1), 4);
        Check.due("the later length holds", Check.mapOf(x, 1), "both 10(28:7) 19(37:8) 28(10:7) 37(19:8)");
        Check.noIndex(x, "no such map", () -> x.ring(2, 0, 1, 1));
        Check.noArgument(x, "leap 0", () -> x.ring(0, 0, 1, 1));
        Check.noArgument(x, "leap 60", () -> x.ring(0, 60, 1, 1));
        Check.noArgument(x, "length -1", () -> x.ring(0, 1, -1, 1));
        Check.noArgument(x, "length too great", () -> x.ring(0, 1, 1000000001, 1));
        Check.noArgument(x, "more -1", () -> x.ring(0, 1, 1, -1));
        Check.noArgument(x, "more too great", () -> x.ring(0, 9, 1, 1000000001));
        Check.noState(x, "as many towns as the leap", () -> x.ring(0, 4, 1, 1));
        x.open(1, false);
        Check.noState(x, "no towns", () -> x.ring(1, 1, 1, 1));
        x.open(1, true);
        x.settle(1, 0, 60, 1);
        Check.due("the greatest leap", x.ring(1, 59, 1, 0), 60);
        Check.due("it leads back", x.length(1, 8, 7), 1);
    }

    private static void fan() {
        Mapgraph x = new Mapgraph();
        x.open(0, true);
        x.settle(0, 1, 4, 1);
        Check.due("fan", x.fan(0, 3, 5, 2), 3);
        Check.due("the hub has no count", Check.mapOf(x, 0), "directed 1() 2() 3(1:5 2:7 4:9) 4()");
        x.town(1, 7);
        Check.due("a hub alone", x.fan(1, 7, 1, 1), 0);
        Check.noIndex(x, "no such map", () -> x.fan(2, 3, -1, 1));
        Check.noIndex(x, "no such town", () -> x.fan(0, 5, -1, 1));
        Check.noArgument(x, "length", () -> x.fan(0, 3, -1, 1));
        Check.noArgument(x, "length", () -> x.fan(0, 3, 1000000001, 1));
        Check.noArgument(x, "more", () -> x.fan(0, 3, 1, -1));
        Check.noArgument(x, "more", () -> x.fan(0, 3, 1, 1000000001));
    }

    private static void lattice() {
        Mapgraph x = new Mapgraph();
        x.open(0, true);
        x.settle(0, 1, 7, 1);
        Check.due("lattice", x.lattice(0, 3, 10, 1), 8);
        Check.due("its lines", Check.mapOf(x, 0),
                "directed 1(2:10 4:11) 2(3:12 5:13) 3(6:14) 4(5:15 7:16) 5(6:17) 6() 7()");
        x.settle(1, 1, 3, 1);
        Check.due("one wide", x.lattice(1, 1, 4, 1), 2);
        Check.due("its lines", Check.mapOf(x, 1), "both 1(2:4) 2(1:4 3:5) 3(2:5)");
        Check.due("wider than there are towns", x.lattice(1, 20, 6, 1), 2);
        Check.due("its lines", Check.mapOf(x, 1), "both 1(2:6) 2(1:6 3:7) 3(2:7)");
        x.open(1, true);
        Check.due("no towns", x.lattice(1, 1, 4, 1), 0);
        Check.noIndex(x, "no such map", () -> x.lattice(2, 0, 1, 1));
        Check.noArgument(x, "wide 0", () -> x.lattice(0, 0, 1, 1));
        Check.noArgument(x, "wide 21", () -> x.lattice(0, 21, 1, 1));
        Check.noArgument(x, "length", () -> x.lattice(0, 1, -1, 1));
        Check.noArgument(x, "length", () -> x.lattice(0, 1, 1000000001, 1));
        Check.noArgument(x, "more", () -> x.lattice(0, 1, 1, -1));
        Check.noArgument(x, "more", () -> x.lattice(0, 1, 1, 1000000001));
    }

    private static void stretch() {
        Mapgraph x = new Mapgraph();
        x.open(0, true);
        x.settle(0, 1, 4, 1);
        x.line(0, 1, 2, 5);
        x.line(0, 1, 3, 0);
        x.line(0, 1, 4, 999999999);
        x.line(0, 2, 1, 50);
        Check.due("longer", x.stretch(0, 1, 2), 3);
        Check.due("not over the greatest", Check.mapOf(x, 0), "directed 1(2:7 3:2 4:1000000000) 2(1:50) 3() 4()");
        Check.due("the greatest stays", x.stretch(0, 1, 1000000000), 2);
        Check.due("shorter", x.stretch(0, 1, -1000000000), 3);
        Check.due("not below 0", Check.mapOf(x, 0), "directed 1(2:0 3:0 4:0) 2(1:50) 3() 4()");
        Check.due("by 0", x.stretch(0, 2, 0), 0);
        Check.due("0 stays", x.stretch(0, 1, -1), 0);
        Check.due("no lines", x.stretch(0, 4, 9), 0);
        x.settle(1, 1, 3, 1);
        x.ring(1, 1, 5, 5);
        Check.due("both ways", x.stretch(1, 2, -7), 2);
        Check.due("lengths", Check.mapOf(x, 1), "both 1(2:0 3:15) 2(1:0 3:3) 3(1:15 2:3)");
        Check.noIndex(x, "no such map", () -> x.stretch(2, 1, 1000000001));
        Check.noIndex(x, "no such town", () -> x.stretch(0, 5, 1000000001));
        Check.noArgument(x, "by too much", () -> x.stretch(0, 1, 1000000001));
        Check.noArgument(x, "by too little", () -> x.stretch(0, 1, -1000000001));
    }

    private static void prune() {
        Mapgraph x = new Mapgraph();
        x.open(0, true);
        x.settle(0, 0, 12, 9);
        x.fan(0, 45, 1, 1);
        x.line(0, 54, 45, 3);
        Check.due("low is high", x.prune(0, 45, 54, 54), 0);
        Check.due("low is more than high", x.prune(0, 45, 54, 53), -7);
        Check.due("from low on, less than high", x.prune(0, 45, 18, 63), 4);
        Check.due("what is left", x.lines(0, 45), "0:1 9:2 63:7 72:8 81:9 90:10 99:11");
        Check.due("the one back stays", x.lines(0, 54), "45:3");
        Check.due("up to the greatest", x.prune(0, 45, 99, 100), 1);
        Check.due("all", x.prune(0, 45, 0, 100), 6);
        x.settle(1, 0, 3, 1);
        x.ring(1, 1, 1, 0);
        Check.due("both ways", x.prune(1, 1, 0, 1), 1);
        Check.due("what is left", Check.mapOf(x, 1), "both 0(2:1) 1(2:1) 2(0:1 1:1)");
        Check.noIndex(x, "no such map", () -> x.prune(2, 45, -1, 0));
        Check.noIndex(x, "no such town", () -> x.prune(0, 44, -1, 0));
        Check.noArgument(x, "low -1", () -> x.prune(0, 45, -1, 9));
        Check.noArgument(x, "high 101", () -> x.prune(0, 45, 0, 101));
        Check.noArgument(x, "the argument goes ahead of WRONG", () -> x.prune(0, 45, 101, 9));
        Check.noArgument(x, "high -1", () -> x.prune(0, 45, 5, -1));
    }

    private static void turn() {
        Mapgraph x = new Mapgraph();
        x.open(0, true);
        x.settle(0, 1, 3, 1);
        x.line(0, 1, 2, 5);
        x.line(0, 2, 1, 6);
        x.line(0, 1, 3, 7);
        Check.due("turn", x.turn(0), 3);
        Check.due("turned round", Check.mapOf(x, 0), "directed 1(2:6) 2(1:5) 3(1:7)");
        x.settle(1, 1, 3, 1);
        x.line(1, 1, 2, 5);
        Check.due("not directed", x.turn(1), 0);
        Check.due("as it was", Check.mapOf(x, 1), "both 1(2:5) 2(1:5) 3()");
        Check.noIndex(x, "no such map", () -> x.turn(2));
    }

    private static void copy() {
        Mapgraph x = new Mapgraph();
        x.open(0, true);
        x.settle(0, 1, 3, 1);
        x.line(0, 1, 2, 5);
        x.line(0, 2, 1, 6);
        x.settle(1, 50, 9, 1);
        x.ring(1, 1, 1, 1);
        Check.due("copy", x.copy(1), 2);
        Check.due("just as the other", Check.mapOf(x, 1), "directed 1(2:5) 2(1:6) 3()");
        Check.due("the other is as it was", Check.mapOf(x, 0), "directed 1(2:5) 2(1:6) 3()");
        x.line(1, 1, 2, 9);
        Check.due("each for itself", x.length(0, 1, 2), 5);
        x.open(0, false);
        Check.due("copy an empty one", x.copy(1), 0);
        Check.due("it is empty", Check.mapOf(x, 1), "both");
        Check.noIndex(x, "no such map", () -> x.copy(-1));
    }

    private static void join() {
        Mapgraph x = new Mapgraph();
        x.open(0, true);
        x.settle(0, 1, 3, 1);
        x.line(0, 1, 2, 5);
        x.settle(1, 2, 3, 1);
        x.town(1, 1);
        x.line(1, 1, 2, 8);
        x.line(1, 2, 3, 9);
        Check.due("join lines of both ways into a directed map", x.join(0), 3);
        Check.due("what it has", Check.mapOf(x, 0), "directed 1(2:5) 2(1:8 3:9) 3(2:9) 4()");
        Check.due("the other is as it was", Check.mapOf(x, 1), "both 1(2:8) 2(1:8 3:9) 3(2:9) 4()");
        x.open(1, false);
        x.town(1, 9);
        Check.due("join directed lines, the first length holds", x.join(1), 2);
        Check.due("what it has", Check.mapOf(x, 1), "both 1(2:5) 2(1:5 3:9) 3(2:9) 4() 9()");
        Check.due("nothing is lacking", x.join(1), 0);
        x.open(0, false);
        x.settle(0, 40, 58, 1);
        Check.due("as long as there are fewer than 60", x.join(0), 1);
        Check.due("60 towns", x.ofMap(0, 0), 60);
        Check.due("the smallest came", x.lines(0, 2), "1:5");
        Check.noIndex(x, "the next did not", () -> x.lines(0, 3));
        Check.noIndex(x, "no such map", () -> x.join(2));
    }
}
