/** Promises 54 and 55: flow and cut. */
public final class FlowTests {
    public static void main(String[] args) {
        directed();
        bothWays();
        fewest();
        great();
        wrong();
        Check.end();
    }

    private static void directed() {
        Mapgraph x = new Mapgraph();
        x.open(0, true);
        x.settle(0, 0, 6, 1);
        x.line(0, 0, 1, 16);
        x.line(0, 0, 2, 13);
        x.line(0, 1, 3, 12);
        x.line(0, 2, 1, 4);
        x.line(0, 3, 2, 9);
        x.line(0, 2, 4, 14);
        x.line(0, 4, 3, 7);
        x.line(0, 3, 5, 20);
        x.line(0, 4, 5, 4);
        Check.due("flow", x.flow(0, 0, 5), 23);
        Check.due("cut", x.cut(0, 0, 5, false), "0-1-2-4");
        Check.due("its lines", x.cut(0, 0, 5, true), "1>3 4>3 4>5");
        Check.due("back nothing goes", x.flow(0, 5, 0), 0);
        Check.due("cut of no flow", x.cut(0, 5, 0, false), "5");
        Check.due("no lines in it", x.cut(0, 5, 0, true), "");
        x.line(0, 0, 5, 0);
        Check.due("a line of length 0 is in it, too", x.cut(0, 0, 5, true), "0>5 1>3 4>3 4>5");
    }

    /** What was sent along a line first has to be sent back. */
    private static void bothWays() {
        Mapgraph x = new Mapgraph();
        x.settle(0, 0, 4, 1);
        x.line(0, 0, 1, 1);
        x.line(0, 1, 2, 1);
        x.line(0, 2, 3, 1);
        x.line(0, 0, 2, 1);
        x.line(0, 1, 3, 1);
        Check.due("flow", x.flow(0, 0, 3), 2);
        Check.due("and back", x.flow(0, 3, 0), 2);
        Check.due("lines by numbers", x.cut(0, 3, 0, true), "3>1 3>2");
        x.town(0, 9);
        Check.due("no way", x.flow(0, 0, 9), 0);
        Check.due("what is reached", x.cut(0, 0, 9, false), "0-1-2-3");
        x.line(0, 3, 9, 5);
        Check.due("a narrow place", x.flow(0, 9, 0), 2);
        Check.due("cut", x.cut(0, 9, 0, false), "3-9");
    }

    private static void fewest() {
        Mapgraph x = new Mapgraph();
        x.open(1, true);
        x.settle(1, 10, 5, 5);
        x.ring(1, 1, 7, 0);
        Check.due("of several least ones that with the fewest towns", x.cut(1, 10, 30, false), "10");
        Check.due("its line", x.cut(1, 10, 30, true), "10>15");
        x.line(1, 10, 15, 0);
        Check.due("no flow along a length of 0", x.flow(1, 10, 30), 0);
        Check.due("fewest", x.cut(1, 10, 30, false), "10");
        Check.due("the line of length 0", x.cut(1, 10, 30, true), "10>15");
    }

    private static void great() {
        Mapgraph x = new Mapgraph();
        x.settle(0, 0, 60, 1);
        x.fan(0, 0, 1000000000, 0);
        x.fan(0, 59, 1000000000, 0);
        Check.due("a great flow", x.flow(0, 0, 59), 59000000000L);
        Check.due("the other way", x.flow(0, 59, 0), 59000000000L);
        Check.due("cut", x.cut(0, 59, 0, false), "59");
    }

    private static void wrong() {
        Mapgraph x = new Mapgraph();
        x.settle(0, 0, 2, 1);
        x.line(0, 0, 1, 5);
        int[][] bad = {{2, 0, 0}, {-1, 0, 1}, {0, 2, 2}, {0, 0, 2}, {0, -1, 0}, {0, 0, 100}, {1, 0, 1}};
        for (int[] b : bad) {
            Check.noIndex(x, "flow", () -> x.flow(b[0], b[1], b[2]));
            Check.noIndex(x, "cut", () -> x.cut(b[0], b[1], b[2], true));
        }
        Check.noArgument(x, "from is to", () -> x.flow(0, 1, 1));
        Check.noArgument(x, "from is to", () -> x.cut(0, 1, 1, false));
    }
}
