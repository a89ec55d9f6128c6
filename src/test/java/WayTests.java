/** Promises 43 to 48: hops, hopWay, near, nearWay, settled, into. */
public final class WayTests {
    public static void main(String[] args) {
        hops();
        near();
        zeros();
        settled();
        into();
        great();
        wrong();
        Check.end();
    }

    private static Mapgraph directed(int towns, int[][] lines) {
        Mapgraph x = new Mapgraph();
        x.open(0, true);
        x.settle(0, 0, towns, 1);
        for (int[] l : lines) {
            x.line(0, l[0], l[1], l[2]);
        }
        return x;
    }

    private static void hops() {
        Mapgraph x = directed(8, new int[][] {
            {0, 5, 1}, {0, 3, 1}, {5, 1, 1}, {3, 2, 1}, {1, 7, 1}, {2, 7, 1}, {3, 4, 1}, {4, 7, 1}, {7, 6, 1},
        });
        Check.due("to itself", x.hops(0, 0, 0), 0);
        Check.due("hops", x.hops(0, 0, 7), 3);
        Check.due("no way back", x.hops(0, 7, 0), -1);
        Check.due("the first of the ways", x.hopWay(0, 0, 7), "0-3-2-7");
        Check.due("a way of one town", x.hopWay(0, 6, 6), "6");
        Check.due("no way", x.hopWay(0, 6, 7), "");
        x.line(0, 0, 7, 1000000000);
        Check.due("lengths do not count", x.hopWay(0, 0, 6), "0-7-6");
    }

    private static void near() {
        Mapgraph x = directed(6, new int[][] {
            {0, 1, 10}, {0, 2, 3}, {2, 1, 4}, {1, 3, 2}, {2, 3, 8}, {3, 4, 7}, {2, 4, 14}, {0, 4, 16},
        });
        Check.due("near", x.near(0, 0, 1), 7);
        Check.due("the way", x.nearWay(0, 0, 1), "0-2-1");
        Check.due("of like sums the fewest lines", x.nearWay(0, 0, 4), "0-4");
        Check.due("its sum", x.near(0, 0, 4), 16);
        x.line(0, 0, 4, 17);
        Check.due("fewer lines, then the first", x.nearWay(0, 0, 4), "0-2-1-3-4");
        x.line(0, 2, 4, 13);
        Check.due("fewest lines", x.nearWay(0, 0, 4), "0-2-4");
        Check.due("to itself", x.near(0, 5, 5), 0);
        Check.due("to itself", x.nearWay(0, 5, 5), "5");
        Check.due("no way", x.near(0, 0, 5), -1);
        Check.due("no way", x.nearWay(0, 0, 5), "");
        Mapgraph y = directed(6, new int[][] {
            {0, 4, 1}, {0, 3, 2}, {4, 1, 2}, {3, 2, 1}, {1, 5, 1}, {2, 5, 1},
        });
        Check.due("of like sums and lines the first", y.nearWay(0, 0, 5), "0-3-2-5");
    }

    /** Lines of length 0 go round without end and settle towns of like sums. */
    private static void zeros() {
        Mapgraph x = new Mapgraph();
        x.settle(0, 0, 6, 1);
        x.ring(0, 1, 0, 0);
        x.ring(0, 2, 0, 0);
        Check.due("near", x.near(0, 0, 3), 0);
        Check.due("fewest lines, then the first", x.nearWay(0, 0, 3), "0-1-3");
        Check.due("settled", x.settled(0, 4), "4-0-1-2-3-5");
        Check.due("into the smallest", x.into(0, 5, 2), 0);
        Check.due("into itself", x.into(0, 2, 2), -1);
        Mapgraph y = directed(5, new int[][] {{0, 2, 0}, {0, 3, 0}, {3, 1, 0}, {2, 3, 0}, {1, 2, 0}, {2, 4, 0}});
        Check.due("a town settled early with more lines", y.nearWay(0, 0, 4), "0-2-4");
        Check.due("settled by sums, then numbers", y.settled(0, 0), "0-2-3-1-4");
    }

    private static void settled() {
        Mapgraph x = directed(8, new int[][] {
            {3, 6, 4}, {3, 1, 4}, {3, 5, 1}, {5, 2, 3}, {2, 0, 9}, {6, 0, 1}, {7, 3, 1},
        });
        Check.due("by sums, of like ones the smallest", x.settled(0, 3), "3-5-1-2-6-0");
        Check.due("where no line leads from", x.settled(0, 4), "4");
        Check.due("all", x.settled(0, 7), "7-3-5-1-2-6-0");
    }

    private static void into() {
        Mapgraph x = directed(7, new int[][] {
            {6, 4, 1}, {6, 3, 2}, {4, 5, 3}, {3, 5, 2}, {2, 5, 0}, {6, 5, 9}, {5, 1, 1}, {1, 5, 0},
        });
        Check.due("the smallest that leads there", x.into(0, 6, 5), 3);
        Check.due("not one without a way", x.hops(0, 6, 2), -1);
        Check.due("itself", x.into(0, 6, 6), -1);
        Check.due("no way", x.into(0, 5, 6), -1);
        Check.due("from the town itself", x.into(0, 6, 4), 6);
        Check.due("near", x.near(0, 6, 5), 4);
        x.line(0, 5, 1, 0);
        Check.due("one that comes behind it, at no length", x.into(0, 6, 5), 1);
    }

    private static void great() {
        Mapgraph x = new Mapgraph();
        x.open(0, true);
        x.settle(0, 40, 60, 1);
        x.ring(0, 1, 1000000000, 0);
        Check.due("a great sum", x.near(0, 40, 99), 59000000000L);
        Check.due("many lines", x.hops(0, 41, 40), 59);
        Check.due("into", x.into(0, 40, 99), 98);
        Check.due("a long way", x.nearWay(0, 97, 41), "97-98-99-40-41");
    }

    private static void wrong() {
        Mapgraph x = directed(2, new int[][] {{0, 1, 5}});
        int[][] bad = {{2, 0, 1}, {-1, 0, 1}, {0, 2, 1}, {0, 0, 2}, {0, -1, 0}, {0, 0, 100}, {1, 0, 1}};
        for (int[] b : bad) {
            Check.noIndex(x, "hops", () -> x.hops(b[0], b[1], b[2]));
            Check.noIndex(x, "hopWay", () -> x.hopWay(b[0], b[1], b[2]));
            Check.noIndex(x, "near", () -> x.near(b[0], b[1], b[2]));
            Check.noIndex(x, "nearWay", () -> x.nearWay(b[0], b[1], b[2]));
            Check.noIndex(x, "into", () -> x.into(b[0], b[1], b[2]));
        }
        Check.noIndex(x, "settled", () -> x.settled(2, 0));
        Check.noIndex(x, "settled", () -> x.settled(0, 2));
        Check.noIndex(x, "settled", () -> x.settled(1, 0));
    }
}
