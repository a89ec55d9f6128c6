/** Promises 49 to 53: treeLines, treeWay, treeMost, keys, odd. */
public final class TreeTests {
    public static void main(String[] args) {
        tree();
        treeWay();
        keys();
        odd();
        wrong();
        Check.end();
    }

    private static Mapgraph both(int first, int towns, int[][] lines) {
        Mapgraph x = new Mapgraph();
        x.settle(0, first, towns, 1);
        for (int[] l : lines) {
            x.line(0, l[0], l[1], l[2]);
        }
        return x;
    }

    private static void tree() {
        Mapgraph x = both(1, 7, new int[][] {
            {1, 2, 5}, {2, 3, 5}, {1, 3, 5}, {3, 4, 2}, {4, 5, 2}, {3, 5, 2}, {6, 7, 0},
        });
        Check.due("in the order", x.treeLines(0), "6-7 3-4 3-5 1-2 1-3");
        Check.due("of an empty map", x.treeLines(1), "");
        Mapgraph y = new Mapgraph();
        y.open(1, true);
        y.settle(1, 1, 3, 1);
        y.line(1, 3, 1, 9);
        y.line(1, 1, 3, 4);
        y.line(1, 2, 1, 5);
        y.line(1, 3, 2, 4);
        Check.due("of two lines the shorter one", y.treeLines(1), "1-3 2-3");
        Check.due("its sum", y.sums(1, 1), 8);
    }

    private static void treeWay() {
        Mapgraph x = both(1, 9, new int[][] {
            {1, 5, 3}, {5, 2, 8}, {5, 9, 1}, {9, 4, 6}, {1, 4, 7}, {6, 7, 0},
        });
        Check.due("tree way", x.treeWay(0, 1, 4), "1-5-9-4");
        Check.due("and back", x.treeWay(0, 4, 1), "4-9-5-1");
        Check.due("its greatest length", x.treeMost(0, 1, 4), 6);
        Check.due("beside it", x.treeMost(0, 2, 4), 8);
        Check.due("a town and itself", x.treeWay(0, 3, 3), "3");
        Check.due("a town and itself", x.treeMost(0, 3, 3), -1);
        Check.due("not of one part", x.treeWay(0, 1, 6), "");
        Check.due("not of one part", x.treeMost(0, 1, 6), -1);
        Check.due("a length of 0", x.treeMost(0, 7, 6), 0);
        Mapgraph y = new Mapgraph();
        y.open(0, true);
        y.settle(0, 1, 3, 1);
        y.line(0, 1, 2, 3);
        y.line(0, 3, 2, 4);
        Check.due("whichever way lines lead", y.treeWay(0, 1, 3), "1-2-3");
    }

    private static void keys() {
        Mapgraph x = both(1, 12, new int[][] {
            {2, 3, 1}, {3, 4, 1}, {4, 2, 1}, {2, 9, 1}, {9, 1, 1}, {9, 10, 1}, {10, 1, 1}, {4, 8, 1}, {8, 7, 1},
            {11, 12, 1},
        });
        Check.due("key towns", x.keys(0, false), "2-4-8-9");
        Check.due("key lines", x.keys(0, true), "2-9 4-8 7-8 11-12");
        Check.due("how many", x.ofMap(0, 8) * 100 + x.ofMap(0, 9), 404);
        Check.due("of an empty map", x.keys(1, true) + x.keys(1, false), "");
        x.line(0, 1, 7, 1);
        Check.due("a ring has none", x.keys(0, false), "");
        Check.due("but for the other part", x.keys(0, true), "11-12");
        Mapgraph y = both(1, 3, new int[][] {{1, 2, 1}, {1, 3, 1}});
        Check.due("where the depth walk began", y.keys(0, false), "1");
        y.raze(0, 3);
        Check.due("not with one neighbour", y.keys(0, false), "");
        Mapgraph z = new Mapgraph();
        z.open(0, true);
        z.settle(0, 1, 2, 1);
        z.line(0, 1, 2, 1);
        z.line(0, 2, 1, 1);
        Check.due("two lines are one plain line", z.keys(0, true), "1-2");
    }

    private static void odd() {
        Mapgraph x = both(0, 10, new int[][] {
            {0, 1, 1}, {1, 2, 1}, {1, 3, 1}, {2, 4, 1}, {3, 5, 1}, {4, 5, 1}, {7, 8, 1},
        });
        Check.due("odd walk", x.odd(0), "4-2-1-3-5");
        Check.due("even parts", x.ofMap(0, 7), 3);
        x.line(0, 2, 3, 1);
        Check.due("the smallest a", x.odd(0), "2-1-3");
        x.unline(0, 2, 3);
        x.unline(0, 4, 5);
        Check.due("all are even", x.odd(0), "");
        Check.due("of an empty map", x.odd(1), "");
        Mapgraph y = both(0, 8, new int[][] {
            {0, 5, 1}, {0, 6, 1}, {5, 1, 1}, {6, 1, 1}, {5, 2, 1}, {6, 2, 1}, {1, 2, 1}, {5, 6, 1},
        });
        Check.due("the smallest a, and the first rows", y.odd(0), "1-5-2");
        y.line(0, 1, 7, 1);
        y.line(0, 2, 7, 1);
        y.unline(0, 1, 2);
        Check.due("of several the smallest a", y.odd(0), "5-0-6");
    }

    private static void wrong() {
        Mapgraph x = both(0, 2, new int[][] {{0, 1, 5}});
        int[][] bad = {{2, 0, 1}, {-1, 0, 1}, {0, 2, 1}, {0, 0, 2}, {0, -1, 0}, {0, 0, 100}, {1, 0, 1}};
        for (int[] b : bad) {
            Check.noIndex(x, "treeWay", () -> x.treeWay(b[0], b[1], b[2]));
            Check.noIndex(x, "treeMost", () -> x.treeMost(b[0], b[1], b[2]));
        }
        int[] badMaps = {2, -1};
        for (int map : badMaps) {
            Check.noIndex(x, "treeLines", () -> x.treeLines(map));
            Check.noIndex(x, "keys", () -> x.keys(map, true));
            Check.noIndex(x, "odd", () -> x.odd(map));
        }
    }
}
