/** The boundary cases of promises 49 to 53, and of section 3. */
public final class TreeBounds {
    public static void main(String[] args) {
        treeLines();
        treeWay();
        treeWayRefused();
        keys();
        keyPlaces();
        odd();
        oddOrder();
        oddWhicheverWay();
        depths();
        colours();
        greatNumbers();
        noMap();
        Check.end();
    }

    private static void treeLines() {
        Script.play("49: no town, one, two without a line, two with one", """
                treeLines(0) = ""
                town(0, 99) = true
                treeLines(0) = ""
                town(0, 0) = true
                treeLines(0) = ""
                line(0, 99, 0, 0) = -1
                treeLines(0) = "0-99"
                """);
        Script.play("49: the order: by lengths, then by a, then by b", """
                settle(0, 1, 4, 1) = 4
                line(0, 3, 4, 1) = -1
                line(0, 2, 4, 1) = -1
                line(0, 2, 3, 1) = -1
                line(0, 1, 4, 1) = -1
                treeLines(0) = "1-4 2-3 2-4"
                line(0, 3, 4, 0) = 1
                treeLines(0) = "3-4 1-4 2-3"
                line(0, 1, 4, 2) = 1
                treeLines(0) = "3-4 2-3 1-4"
                """);
        Script.play("49: of two lines the smaller length, in either direction", """
                open(0, true) = 0
                settle(0, 1, 3, 1) = 3
                line(0, 1, 2, 5) = -1
                line(0, 3, 2, 4) = -1
                treeLines(0) = "2-3 1-2"
                line(0, 2, 1, 3) = -1
                treeLines(0) = "1-2 2-3"
                sums(0, 1) = 7
                line(0, 2, 3, 1000000000) = -1
                sums(0, 1) = 7
                ofMap(0, 10) = 4
                """);
        StringBuilder all = new StringBuilder("0-1 0-59");
        for (int a = 1; a < 58; a++) {
            all.append(" ").append(a).append("-").append(a + 1);
        }
        Script.play("49: 59 lines of a full map, as that which closes the ring comes last", Script.FULL + "treeLines(0) = \"" + all + "\"\n");
    }

    private static void treeWay() {
        Script.play("50, 51: of a town and itself, of two parts", """
                settle(0, 1, 3, 1) = 3
                line(0, 1, 2, 0) = -1
                treeWay(0, 1, 1) = "1"
                treeMost(0, 1, 1) = -1
                treeWay(0, 3, 3) = "3"
                treeMost(0, 3, 3) = -1
                treeWay(0, 1, 3) = ""
                treeMost(0, 1, 3) = -1
                treeWay(0, 2, 1) = "2-1"
                treeMost(0, 2, 1) = 0
                """);
        Script.play("50, 51: against the direction of lines, too", """
                open(0, true) = 0
                settle(0, 1, 3, 1) = 3
                line(0, 2, 1, 1000000000) = -1
                line(0, 2, 3, 0) = -1
                treeWay(0, 1, 3) = "1-2-3"
                treeWay(0, 3, 1) = "3-2-1"
                treeMost(0, 1, 3) = 1000000000
                treeMost(0, 3, 2) = 0
                """);
        Script.play("50, 51: the longest of 60 towns", """
                settle(0, 0, 60, 1) = 60
                ring(0, 1, 10, 1) = 60
                treeWay(0, 57, 0) = "57-56-55-54-53-52-51-50-49-48-47-46-45-44-43-42-41-40-39-38-37-36-35-34-33-32\
                -31-30-29-28-27-26-25-24-23-22-21-20-19-18-17-16-15-14-13-12-11-10-9-8-7-6-5-4-3-2-1-0"
                treeMost(0, 59, 0) = 68
                treeMost(0, 0, 59) = 68
                treeMost(0, 0, 1) = 10
                """);
    }

    private static void treeWayRefused() {
        Script.playWithoutPlaces("50: no map, no town from or to of it", "treeWay");
        Script.playWithoutPlaces("51: no map, no town from or to of it", "treeMost");
    }

    private static void keys() {
        Script.play("52: none of an empty map, of one town, of two apart", """
                keys(0, true) = ""
                keys(0, false) = ""
                town(0, 99) = true
                keys(0, true) = ""
                keys(0, false) = ""
                town(0, 0) = true
                keys(0, true) = ""
                keys(0, false) = ""
                """);
        Script.play("52: two towns and a line: it is key, they are not", """
                town(0, 99) = true
                town(0, 0) = true
                line(0, 99, 0, 0) = -1
                keys(0, true) = "0-99"
                keys(0, false) = ""
                ofTown(0, 0, 11) = 0
                ofTown(0, 99, 11) = 0
                """);
        Script.play("52: three in a row, then in a ring", """
                settle(0, 1, 3, 1) = 3
                line(0, 1, 2, 0) = -1
                line(0, 3, 2, 0) = -1
                keys(0, true) = "1-2 2-3"
                keys(0, false) = "2"
                ofTown(0, 2, 11) = 1
                line(0, 1, 3, 0) = -1
                keys(0, true) = ""
                keys(0, false) = ""
                ofTown(0, 2, 11) = 0
                """);
        Script.play("52: a line and the one back are one plain line", """
                open(0, true) = 0
                settle(0, 1, 3, 1) = 3
                line(0, 1, 2, 0) = -1
                line(0, 2, 1, 0) = -1
                line(0, 3, 2, 0) = -1
                keys(0, true) = "1-2 2-3"
                keys(0, false) = "2"
                """);
    }

    private static void keyPlaces() {
        Script.play("52: where the depth walk begins: with one branch it is not key, with two it is", """
                settle(0, 1, 4, 1) = 4
                line(0, 1, 2, 1) = -1
                line(0, 1, 3, 1) = -1
                line(0, 2, 3, 1) = -1
                keys(0, false) = ""
                line(0, 1, 4, 1) = -1
                keys(0, false) = "1"
                keys(0, true) = "1-4"
                """);
        Script.play("52: a town between two rings is key, and no line is", """
                settle(0, 1, 5, 1) = 5
                line(0, 1, 2, 1) = -1
                line(0, 2, 3, 1) = -1
                line(0, 3, 1, 1) = -1
                line(0, 3, 4, 1) = -1
                line(0, 4, 5, 1) = -1
                line(0, 5, 3, 1) = -1
                keys(0, false) = "3"
                keys(0, true) = ""
                """);
        Script.play("52: two parts, where the depth walk begins in each", """
                settle(0, 0, 6, 1) = 6
                line(0, 0, 1, 1) = -1
                line(0, 0, 2, 1) = -1
                line(0, 3, 4, 1) = -1
                keys(0, false) = "0"
                keys(0, true) = "0-1 0-2 3-4"
                line(0, 3, 5, 1) = -1
                keys(0, false) = "0-3"
                unline(0, 0, 1) = 1
                keys(0, false) = "3"
                """);
        Script.play("52: a key town is told once, whatever it parts", """
                settle(0, 0, 5, 1) = 5
                line(0, 1, 0, 1) = -1
                line(0, 1, 2, 1) = -1
                line(0, 1, 3, 1) = -1
                line(0, 1, 4, 1) = -1
                keys(0, false) = "1"
                ofMap(0, 8) = 1
                """);
        StringBuilder towns = new StringBuilder("1");
        StringBuilder lines = new StringBuilder("0-1");
        for (int a = 1; a < 59; a++) {
            towns.append(a == 1 ? "" : "-" + a);
            lines.append(" ").append(a).append("-").append(a + 1);
        }
        Script.play("52: 58 key towns and 59 key lines", "settle(0, 0, 60, 1) = 60\nlattice(0, 1, 1, 0) = 59\n"
                + "keys(0, false) = \"" + towns + "\"\nkeys(0, true) = \"" + lines + "\"\n");
    }

    private static void odd() {
        Script.play("53: none of an empty map, of one town, of two, of four in a ring", """
                odd(0) = ""
                town(0, 1) = true
                odd(0) = ""
                town(0, 2) = true
                line(0, 1, 2, 0) = -1
                odd(0) = ""
                settle(0, 3, 2, 1) = 2
                ring(0, 1, 0, 0) = 4
                odd(0) = ""
                """);
        Script.play("53: three in a ring", """
                settle(0, 1, 3, 1) = 3
                ring(0, 1, 0, 0) = 3
                odd(0) = "2-1-3"
                unline(0, 2, 3) = 0
                odd(0) = ""
                """);
        Script.play("53: a line and the one back make no odd walk", """
                open(0, true) = 0
                settle(0, 1, 2, 1) = 2
                ring(0, 1, 0, 0) = 2
                odd(0) = ""
                ofMap(0, 7) = 1
                """);
        StringBuilder walk = new StringBuilder("29");
        for (int town = 28; town >= 0; town--) {
            walk.append("-").append(town);
        }
        for (int town = 58; town >= 30; town--) {
            walk.append("-").append(town);
        }
        Script.play("53: 59 in a ring",
                "settle(0, 0, 59, 1) = 59\nring(0, 1, 0, 0) = 59\nodd(0) = \"" + walk + "\"\n");
    }

    private static void oddOrder() {
        Script.play("53: the smallest a, of several the smallest b", """
                settle(0, 0, 5, 1) = 5
                line(0, 0, 1, 1) = -1
                line(0, 0, 2, 1) = -1
                line(0, 0, 3, 1) = -1
                line(0, 0, 4, 1) = -1
                line(0, 3, 4, 1) = -1
                odd(0) = "3-0-4"
                line(0, 2, 4, 1) = -1
                odd(0) = "2-0-4"
                line(0, 2, 3, 1) = -1
                odd(0) = "2-0-3"
                """);
        Script.play("53: c is the last town up to which the rows are alike", """
                settle(0, 0, 6, 1) = 6
                line(0, 0, 1, 1) = -1
                line(0, 1, 2, 1) = -1
                line(0, 2, 3, 1) = -1
                line(0, 2, 4, 1) = -1
                line(0, 3, 4, 1) = -1
                odd(0) = "3-2-4"
                line(0, 1, 5, 1) = -1
                line(0, 5, 4, 1) = -1
                odd(0) = "3-2-4"
                unline(0, 2, 4) = 1
                odd(0) = "3-2-1-5-4"
                """);
        Script.play("53: the second part, the first is even", """
                settle(0, 0, 5, 1) = 5
                line(0, 0, 1, 1) = -1
                line(0, 2, 3, 1) = -1
                line(0, 3, 4, 1) = -1
                line(0, 4, 2, 1) = -1
                odd(0) = "3-2-4"
                ofMap(0, 7) = 1
                """);
    }

    private static void oddWhicheverWay() {
        Script.play("53: in a directed map plain lines count, whichever way lines lead", """
                open(1, true) = 0
                settle(1, 1, 6, 1) = 6
                line(1, 2, 1, 5) = -1
                line(1, 3, 2, 5) = -1
                line(1, 2, 4, 5) = -1
                line(1, 5, 3, 5) = -1
                line(1, 5, 4, 5) = -1
                ofTown(1, 5, 6) = 3
                ofTown(1, 5, 7) = 1
                odd(1) = ""
                line(1, 4, 3, 0) = -1
                ofTown(1, 5, 7) = -1
                odd(1) = "3-2-4"
                ofMap(1, 7) = 1
                line(1, 3, 4, 9) = -1
                odd(1) = "3-2-4"
                turn(1) = 7
                odd(1) = "3-2-4"
                unline(1, 3, 4) = 0
                odd(1) = "3-2-4"
                unline(1, 4, 3) = 9
                odd(1) = ""
                """);
    }

    private static void depths() {
        Script.play("3: it begins anew where there is no father", """
                settle(0, 3, 4, 1) = 4
                line(0, 3, 5, 1) = -1
                line(0, 4, 6, 1) = -1
                ofTown(0, 3, 8) = 0
                ofTown(0, 5, 8) = 1
                ofTown(0, 4, 8) = 2
                ofTown(0, 6, 8) = 3
                ofTown(0, 4, 10) = -1
                ofTown(0, 3, 10) = -1
                ofTown(0, 5, 10) = 3
                ofTown(0, 6, 10) = 4
                """);
        Script.play("3: the low of a town without other lines than to its father is its own number", """
                settle(0, 0, 4, 1) = 4
                line(0, 0, 1, 1) = -1
                line(0, 1, 2, 1) = -1
                line(0, 2, 3, 1) = -1
                ofTown(0, 3, 9) = 3
                ofTown(0, 2, 9) = 2
                ofTown(0, 0, 9) = 0
                line(0, 3, 1, 1) = -1
                ofTown(0, 3, 9) = 1
                ofTown(0, 2, 9) = 1
                ofTown(0, 1, 9) = 1
                ofTown(0, 0, 9) = 0
                keys(0, false) = "1"
                keys(0, true) = "0-1"
                """);
        Script.play("3: a low that comes from the town 99, and one that does not", """
                settle(0, 4, 2, 1) = 2
                town(0, 0) = true
                town(0, 99) = true
                line(0, 0, 99, 1) = -1
                line(0, 99, 4, 1) = -1
                line(0, 4, 5, 1) = -1
                ofTown(0, 5, 9) = 3
                keys(0, false) = "4-99"
                line(0, 5, 99, 1) = -1
                ofTown(0, 5, 9) = 1
                ofTown(0, 4, 9) = 1
                keys(0, false) = "99"
                """);
        Script.play("3: it goes back 58 times", """
                settle(0, 0, 60, 1) = 60
                lattice(0, 1, 1, 0) = 59
                unline(0, 58, 59) = 1
                line(0, 0, 59, 1) = -1
                ofTown(0, 58, 8) = 58
                ofTown(0, 59, 8) = 59
                ofTown(0, 59, 10) = 0
                """);
        Script.play("3: it goes back more than once", """
                settle(0, 0, 5, 1) = 5
                line(0, 0, 1, 1) = -1
                line(0, 1, 2, 1) = -1
                line(0, 2, 3, 1) = -1
                line(0, 0, 4, 1) = -1
                ofTown(0, 4, 8) = 4
                ofTown(0, 4, 10) = 0
                """);
    }

    private static void colours() {
        Script.play("3: a part that is not even gives none of its towns a colour, the others keep theirs", """
                settle(0, 0, 5, 1) = 5
                line(0, 0, 1, 1) = -1
                line(0, 2, 3, 1) = -1
                line(0, 3, 4, 1) = -1
                ofTown(0, 0, 7) = 0
                ofTown(0, 1, 7) = 1
                ofTown(0, 2, 7) = 0
                ofTown(0, 3, 7) = 1
                ofTown(0, 4, 7) = 0
                line(0, 4, 2, 1) = -1
                ofTown(0, 2, 7) = -1
                ofTown(0, 3, 7) = -1
                ofTown(0, 4, 7) = -1
                ofTown(0, 0, 7) = 0
                ofTown(0, 1, 7) = 1
                ofMap(0, 6) = 2
                ofMap(0, 7) = 1
                """);
        Script.play("3: the head is the smallest town of its part, at level 0", """
                settle(0, 0, 4, 1) = 4
                line(0, 3, 1, 1) = -1
                ofTown(0, 3, 5) = 1
                ofTown(0, 1, 5) = 1
                ofTown(0, 0, 5) = 0
                ofTown(0, 2, 5) = 2
                ofTown(0, 1, 6) = 0
                ofTown(0, 3, 6) = 1
                line(0, 3, 0, 1) = -1
                ofTown(0, 1, 5) = 0
                ofTown(0, 1, 6) = 2
                ofTown(0, 1, 7) = 0
                """);
    }

    private static void greatNumbers() {
        Script.play("3: parts of the greatest numbers alone, one of them not even", """
                settle(0, 94, 6, 1) = 6
                line(0, 97, 98, 3) = -1
                line(0, 98, 99, 2) = -1
                line(0, 94, 96, 1) = -1
                ofMap(0, 6) = 3
                ofMap(0, 7) = 3
                ofTown(0, 99, 7) = 0
                keys(0, false) = "98"
                line(0, 99, 97, 1) = -1
                ofMap(0, 6) = 3
                ofMap(0, 7) = 2
                ofTown(0, 97, 7) = -1
                ofTown(0, 98, 7) = -1
                ofTown(0, 99, 7) = -1
                ofTown(0, 94, 7) = 0
                ofTown(0, 95, 7) = 0
                ofTown(0, 96, 7) = 1
                ofTown(0, 99, 5) = 97
                ofTown(0, 99, 6) = 1
                ofTown(0, 99, 8) = 5
                ofTown(0, 99, 9) = 3
                ofTown(0, 99, 10) = 98
                odd(0) = "98-97-99"
                treeLines(0) = "94-96 97-99 98-99"
                treeWay(0, 97, 98) = "97-99-98"
                treeMost(0, 97, 98) = 2
                keys(0, true) = "94-96"
                keys(0, false) = ""
                isSound() = true
                """);
    }

    private static void noMap() {
        Script.play("49, 52, 53: no map", """
                settle(0, 1, 3, 1) = 3
                ring(0, 1, 1, 1) = 3
                treeLines(2) = throws.IndexOutOfBoundsException
                treeLines(-1) = throws.IndexOutOfBoundsException
                keys(2, true) = throws.IndexOutOfBoundsException
                keys(-1, true) = throws.IndexOutOfBoundsException
                keys(2, false) = throws.IndexOutOfBoundsException
                keys(-1, false) = throws.IndexOutOfBoundsException
                odd(2) = throws.IndexOutOfBoundsException
                odd(-1) = throws.IndexOutOfBoundsException
                """);
    }
}
