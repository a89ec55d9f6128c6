/** Promises 30 to 37: ofMap, ofTown, sums, length, beside, window, lines, common. */
public final class AskTests {
    public static void main(String[] args) {
        ofMap();
        ofTown();
        sums();
        length();
        beside();
        window();
        lines();
        common();
        Check.end();
    }

    /** A directed triangle 1-2-3, a bridge 3-4, a square 4-5-6-7, and 20 alone. */
    private static Mapgraph figure() {
        Mapgraph x = new Mapgraph();
        x.open(0, true);
        x.settle(0, 1, 7, 1);
        x.town(0, 20);
        x.line(0, 1, 2, 5);
        x.line(0, 2, 1, 3);
        x.line(0, 2, 3, 4);
        x.line(0, 3, 1, 9);
        x.line(0, 4, 3, 7);
        x.line(0, 4, 5, 1);
        x.line(0, 6, 5, 2);
        x.line(0, 6, 7, 8);
        x.line(0, 4, 7, 6);
        return x;
    }

    private static void ofMap() {
        Mapgraph x = figure();
        int[] due = {8, 9, 1, 1, 20, 8, 2, 1, 2, 1, 7};
        int[] empty = {0, 0, 0, -9, -9, 0, 0, 0, 0, 0, -1};
        for (int what = 0; what <= 10; what++) {
            Check.due("ofMap(0, " + what + ")", x.ofMap(0, what), due[what]);
            Check.due("ofMap(1, " + what + ")", x.ofMap(1, what), empty[what]);
        }
        x.settle(1, 8, 2, 1);
        x.line(1, 8, 9, 0);
        Check.due("a length of 0", x.ofMap(1, 10), 0);
        Check.due("lines that lead both ways", x.ofMap(1, 1), 1);
        Check.due("plain lines", x.ofMap(1, 5), 1);
        Check.noIndex(x, "no such map", () -> x.ofMap(2, 11));
        Check.noArgument(x, "what -1", () -> x.ofMap(0, -1));
        Check.noArgument(x, "what 11", () -> x.ofMap(0, 11));
    }

    private static void ofTown() {
        Mapgraph x = figure();
        int[] towns = {1, 2, 3, 4, 5, 6, 7, 20};
        int[][] due = {
            {1, 2, 1, 3, 0, 2, 0, 0},
            {2, 1, 2, 0, 2, 0, 2, 0},
            {2, 1, 1, 3, -9, 5, -9, -9},
            {2, 3, 1, 7, -9, 7, -9, -9},
            {5, 3, 9, 1, -1, 2, -1, -1},
            {1, 1, 1, 1, 1, 1, 1, 20},
            {0, 1, 1, 2, 3, 4, 3, 0},
            {-1, -1, -1, -1, -1, -1, -1, 0},
            {0, 1, 2, 3, 4, 5, 6, 7},
            {0, 0, 0, 3, 3, 3, 3, 7},
            {-1, 1, 2, 3, 4, 5, 6, -1},
            {0, 0, 1, 1, 0, 0, 0, 0},
        };
        for (int what = 0; what <= 11; what++) {
            for (int k = 0; k < towns.length; k++) {
                Check.due("ofTown(0, " + towns[k] + ", " + what + ")", x.ofTown(0, towns[k], what), due[what][k]);
            }
        }
        x.unline(0, 3, 1);
        int[] colours = {0, 1, 0, 1, 0, 1, 0, 0};
        for (int k = 0; k < towns.length; k++) {
            Check.due("colour of " + towns[k], x.ofTown(0, towns[k], 7), colours[k]);
        }
        Check.noIndex(x, "no such map", () -> x.ofTown(-1, 1, 12));
        Check.noIndex(x, "no such town", () -> x.ofTown(0, 8, 12));
        Check.noArgument(x, "what -1", () -> x.ofTown(0, 1, -1));
        Check.noArgument(x, "what 12", () -> x.ofTown(0, 1, 12));
    }

    private static void sums() {
        Mapgraph x = figure();
        Check.due("of all lines", x.sums(0, 0), 45);
        Check.due("of the least tree", x.sums(0, 1), 3 + 4 + 7 + 1 + 2 + 6);
        Check.due("of an empty map", x.sums(1, 0) + x.sums(1, 1), 0);
        x.settle(1, 0, 60, 1);
        x.ring(1, 1, 1000000000, 0);
        Check.due("great ones, each line once", x.sums(1, 0), 60000000000L);
        Check.due("a great tree", x.sums(1, 1), 59000000000L);
        Check.noIndex(x, "no such map", () -> x.sums(2, 2));
        Check.noArgument(x, "what 2", () -> x.sums(0, 2));
        Check.noArgument(x, "what -1", () -> x.sums(0, -1));
    }

    private static void length() {
        Mapgraph x = figure();
        Check.due("there", x.length(0, 1, 2), 5);
        Check.due("back", x.length(0, 2, 1), 3);
        Check.due("none back", x.length(0, 3, 2), -1);
        Check.due("to itself", x.length(0, 3, 3), -1);
        Check.noIndex(x, "no such map", () -> x.length(2, 1, 2));
        Check.noIndex(x, "no town from", () -> x.length(0, 0, 2));
        Check.noIndex(x, "no town to", () -> x.length(0, 1, 100));
    }

    private static Mapgraph hub() {
        Mapgraph x = new Mapgraph();
        x.open(0, true);
        int[] towns = {0, 10, 11, 30, 50, 98, 99};
        for (int town : towns) {
            x.town(0, town);
        }
        x.fan(0, 50, 100, 1);
        x.unline(0, 50, 11);
        x.line(0, 0, 99, 1);
        x.line(0, 98, 0, 1);
        return x;
    }

    private static void beside() {
        Mapgraph x = hub();
        int[][] due = {
            {30, 10, 30, 30, 98}, {31, 30, 30, 98, 98}, {11, 10, 10, 30, 30}, {0, -1, 0, 0, 10},
            {99, 98, 99, 99, -1}, {98, 30, 98, 98, 99}, {97, 30, 30, 98, 98}, {50, 30, 30, 98, 98},
        };
        for (int[] d : due) {
            for (int how = 0; how < 4; how++) {
                Check.due("beside " + d[0] + ", " + how, x.beside(0, 50, d[0], how), d[how + 1]);
            }
        }
        for (int how = 0; how < 4; how++) {
            Check.due("beside a town without lines", x.beside(0, 30, 50, how), -1);
            Check.due("beside 0 of the smallest town", x.beside(0, 0, 0, how), how < 2 ? -1 : 99);
            Check.due("beside 99 of town 98", x.beside(0, 98, 99, how), how < 2 ? 0 : -1);
            Check.due("beside of the greatest town", x.beside(0, 99, 99, how), -1);
        }
        Check.noIndex(x, "no such map", () -> x.beside(2, 50, -1, 0));
        Check.noIndex(x, "no such town", () -> x.beside(0, 51, -1, 0));
        Check.noArgument(x, "number -1", () -> x.beside(0, 50, -1, 0));
        Check.noArgument(x, "number 100", () -> x.beside(0, 50, 100, 0));
        Check.noArgument(x, "how -1", () -> x.beside(0, 50, 1, -1));
        Check.noArgument(x, "how 4", () -> x.beside(0, 50, 1, 4));
    }

    private static void window() {
        Mapgraph x = hub();
        int[][] due = {
            {0, 100, 5, 0, 99, 105}, {10, 30, 1, 10, 10, 101}, {10, 31, 2, 10, 30, 103},
            {11, 30, 0, -9, -9, -1}, {99, 100, 1, 99, 99, 105}, {30, 30, 0, -9, -9, -1},
            {100, 100, 0, -9, -9, -1}, {0, 0, 0, -9, -9, -1}, {31, 30, -7, -7, -7, -7},
        };
        for (int[] d : due) {
            for (int what = 0; what < 4; what++) {
                Check.due("window " + d[0] + ", " + d[1] + ", " + what, x.window(0, 50, d[0], d[1], what),
                        d[what + 2]);
            }
        }
        x.line(0, 50, 0, 999);
        Check.due("the greatest length, not the last", x.window(0, 50, 0, 100, 3), 999);
        Check.noIndex(x, "no such map", () -> x.window(-1, 50, 101, 0, 0));
        Check.noIndex(x, "no such town", () -> x.window(0, 51, 101, 0, 0));
        Check.noArgument(x, "low 101", () -> x.window(0, 50, 101, 0, 0));
        Check.noArgument(x, "low -1", () -> x.window(0, 50, -1, 0, 0));
        Check.noArgument(x, "high 101", () -> x.window(0, 50, 0, 101, 0));
        Check.noArgument(x, "high -1", () -> x.window(0, 50, 0, -1, 0));
        Check.noArgument(x, "what 4 goes ahead of WRONG", () -> x.window(0, 50, 9, 8, 4));
        Check.noArgument(x, "what -1", () -> x.window(0, 50, 8, 9, -1));
    }

    private static void lines() {
        Mapgraph x = hub();
        Check.due("lines", x.lines(0, 50), "0:100 10:101 30:103 98:104 99:105");
        Check.due("none", x.lines(0, 10), "");
        Check.noIndex(x, "no such map", () -> x.lines(2, 50));
        Check.noIndex(x, "no such town", () -> x.lines(0, 51));
        Check.noIndex(x, "no such town", () -> x.lines(0, -1));
        x.settle(1, 3, 2, 1);
        x.line(1, 4, 3, 1000000000);
        Check.due("both ways", x.lines(1, 3), "4:1000000000");
    }

    private static void common() {
        Mapgraph x = new Mapgraph();
        Check.due("empty maps are alike", x.common(3), 1);
        x.open(1, true);
        Check.due("directed or not", x.common(3), 0);
        x.settle(0, 1, 4, 1);
        x.settle(1, 2, 4, 1);
        x.line(0, 2, 3, 5);
        x.line(0, 3, 4, 6);
        x.line(1, 2, 3, 5);
        x.line(1, 3, 2, 7);
        x.line(1, 3, 4, 6);
        int[] due = {3, 3, 2, 0};
        for (int what = 0; what < 4; what++) {
            Check.due("common " + what, x.common(what), due[what]);
        }
        x.copy(0);
        int[] alike = {4, 3, 3, 1};
        for (int what = 0; what < 4; what++) {
            Check.due("common of like ones " + what, x.common(what), alike[what]);
        }
        x.line(0, 2, 3, 6);
        Check.due("another length", x.common(3), 0);
        x.line(0, 2, 3, 5);
        x.town(0, 1);
        Check.due("another town", x.common(3), 0);
        x.raze(0, 1);
        Check.due("alike again", x.common(3), 1);
        x.unline(0, 3, 4);
        x.line(0, 4, 3, 6);
        Check.due("another way round", x.common(3), 0);
        Check.noArgument(x, "what -1", () -> x.common(-1));
        Check.noArgument(x, "what 4", () -> x.common(4));
        Mapgraph y = new Mapgraph();
        y.settle(0, 1, 2, 1);
        y.line(0, 1, 2, 4);
        y.copy(1);
        Check.due("a pair and its turn", y.common(1), 2);
    }
}
