/** The boundary cases of promises 30 to 37. */
public final class AskBounds {
    /** Directed; from 50 lines lead to 0, 10, 30, 98 and 99. */
    private static final String HUB = """
            open(0, true) = 0
            settle(0, 10, 5, 1) = 5
            town(0, 0) = true
            town(0, 30) = true
            town(0, 50) = true
            town(0, 98) = true
            town(0, 99) = true
            line(0, 50, 0, 4) = -1
            line(0, 50, 10, 0) = -1
            line(0, 50, 30, 1000000000) = -1
            line(0, 50, 98, 3) = -1
            line(0, 50, 99, 2) = -1
            line(0, 11, 50, 1) = -1
            line(0, 0, 99, 1) = -1
            line(0, 98, 0, 1) = -1
            """;

    public static void main(String[] args) {
        ofMap();
        ofMapCounts();
        askedAgain();
        ofTown();
        sums();
        length();
        beside();
        windowBounds();
        window();
        lines();
        common();
        alike();
        Check.end();
    }

    private static void ofMap() {
        Script.play("30: what is 0 to 10, of an empty map", """
                ofMap(0, -1) = throws.IllegalArgumentException
                ofMap(0, 0) = 0
                ofMap(0, 1) = 0
                ofMap(0, 2) = 0
                ofMap(0, 3) = -9
                ofMap(0, 4) = -9
                ofMap(0, 5) = 0
                ofMap(0, 6) = 0
                ofMap(0, 7) = 0
                ofMap(0, 8) = 0
                ofMap(0, 9) = 0
                ofMap(0, 10) = -1
                ofMap(0, 11) = throws.IllegalArgumentException
                """);
        Script.play("30: of one town", """
                open(0, true) = 0
                town(0, 0) = true
                ofMap(0, 0) = 1
                ofMap(0, 1) = 0
                ofMap(0, 2) = 1
                ofMap(0, 3) = 0
                ofMap(0, 4) = 0
                ofMap(0, 5) = 0
                ofMap(0, 6) = 1
                ofMap(0, 7) = 1
                ofMap(0, 8) = 0
                ofMap(0, 9) = 0
                ofMap(0, 10) = -1
                """);
        Script.play("30: of 60 towns and 400 lines", Script.FULL + """
                ofMap(0, 0) = 60
                ofMap(0, 1) = 400
                ofMap(0, 2) = 0
                ofMap(0, 3) = 0
                ofMap(0, 4) = 59
                ofMap(0, 5) = 400
                ofMap(0, 6) = 1
                ofMap(0, 7) = 0
                ofMap(0, 8) = 0
                ofMap(0, 9) = 0
                ofMap(0, 10) = 1
                """);
        Script.play("30: the exception that is named first, and ahead of EMPTY", """
                ofMap(2, 3) = throws.IndexOutOfBoundsException
                ofMap(-1, 4) = throws.IndexOutOfBoundsException
                ofMap(2, 11) = throws.IndexOutOfBoundsException
                ofMap(-1, -1) = throws.IndexOutOfBoundsException
                ofMap(1, 11) = throws.IllegalArgumentException
                """);
    }

    private static void ofMapCounts() {
        Script.play("30: 60 parts, all even", """
                settle(0, 40, 60, 1) = 60
                ofMap(0, 3) = 40
                ofMap(0, 4) = 99
                ofMap(0, 6) = 60
                ofMap(0, 7) = 60
                """);
        Script.play("30: a line and the one back are one plain line", """
                open(0, true) = 0
                settle(0, 1, 2, 1) = 2
                line(0, 1, 2, 0) = -1
                ofMap(0, 5) = 1
                ofMap(0, 10) = 0
                line(0, 2, 1, 1000000000) = -1
                ofMap(0, 1) = 2
                ofMap(0, 5) = 1
                ofMap(0, 10) = 0
                line(0, 1, 2, 1000000000) = 0
                ofMap(0, 10) = 1000000000
                """);
        Script.play("30: 58 key towns, 59 key lines", """
                settle(0, 0, 60, 1) = 60
                lattice(0, 1, 1, 0) = 59
                ofMap(0, 8) = 58
                ofMap(0, 9) = 59
                line(0, 59, 0, 1) = -1
                ofMap(0, 8) = 0
                ofMap(0, 9) = 0
                """);
    }

    /** What was found out for one answer is not told again once the map is another one. */
    private static void askedAgain() {
        Script.play("30: asked again after each act", """
                settle(0, 1, 3, 1) = 3
                ofMap(0, 6) = 3
                town(0, 4) = true
                ofMap(0, 6) = 4
                settle(0, 5, 1, 1) = 1
                ofMap(0, 6) = 5
                line(0, 1, 2, 5) = -1
                ofMap(0, 10) = 5
                line(0, 1, 2, 6) = 5
                ofMap(0, 10) = 6
                stretch(0, 1, 1) = 1
                ofMap(0, 10) = 7
                unline(0, 2, 1) = 7
                ofMap(0, 10) = -1
                ring(0, 1, 1, 0) = 5
                ofMap(0, 9) = 0
                prune(0, 1, 0, 100) = 2
                ofMap(0, 9) = 3
                fan(0, 1, 2, 0) = 4
                ofMap(0, 9) = 0
                raze(0, 1) = 4
                ofMap(0, 9) = 3
                lattice(0, 2, 9, 0) = 4
                ofMap(0, 9) = 0
                copy(1) = 5
                ofMap(1, 5) = 5
                open(0, false) = 4
                ofMap(0, 6) = 0
                join(0) = 5
                ofMap(0, 6) = 1
                open(0, true) = 4
                town(0, 2) = true
                ofMap(1, 6) = 1
                keep(1) = 3
                ofMap(1, 5) = 0
                copy(0) = 0
                ofMap(0, 6) = 1
                """);
        Script.play("30: asked again after a bid was built, and after lines were turned", """
                open(0, true) = 0
                settle(0, 1, 3, 1) = 3
                line(0, 1, 2, 5) = -1
                bid(0, 1, 2) = 0
                line(0, 1, 2, 9) = 5
                treeLines(0) = "1-2"
                treeMost(0, 1, 2) = 9
                build(0) = 9
                treeMost(0, 1, 2) = 5
                turn(0) = 1
                treeMost(0, 2, 1) = 5
                ofTown(0, 1, 1) = 1
                """);
    }

    private static void ofTown() {
        Script.play("31: what is 0 to 11, of a town without lines", """
                town(0, 99) = true
                ofTown(0, 99, -1) = throws.IllegalArgumentException
                ofTown(0, 99, 0) = 0
                ofTown(0, 99, 1) = 0
                ofTown(0, 99, 2) = -9
                ofTown(0, 99, 3) = -9
                ofTown(0, 99, 4) = -1
                ofTown(0, 99, 5) = 99
                ofTown(0, 99, 6) = 0
                ofTown(0, 99, 7) = 0
                ofTown(0, 99, 8) = 0
                ofTown(0, 99, 9) = 0
                ofTown(0, 99, 10) = -1
                ofTown(0, 99, 11) = 0
                ofTown(0, 99, 12) = throws.IllegalArgumentException
                """);
        Script.play("31: lines lead to it alone, or from it alone", """
                open(0, true) = 0
                settle(0, 1, 2, 1) = 2
                line(0, 1, 2, 0) = -1
                ofTown(0, 2, 0) = 0
                ofTown(0, 2, 1) = 1
                ofTown(0, 2, 2) = -9
                ofTown(0, 2, 3) = -9
                ofTown(0, 2, 4) = -1
                ofTown(0, 1, 0) = 1
                ofTown(0, 1, 1) = 0
                ofTown(0, 1, 2) = 2
                ofTown(0, 1, 3) = 2
                ofTown(0, 1, 4) = 0
                """);
        Script.play("31: neighbours 0 and 99, lengths of 0 and 1000000000", """
                settle(0, 50, 1, 1) = 1
                town(0, 0) = true
                town(0, 99) = true
                line(0, 50, 99, 1000000000) = -1
                ofTown(0, 50, 4) = 1000000000
                line(0, 50, 0, 0) = -1
                ofTown(0, 50, 0) = 2
                ofTown(0, 50, 1) = 2
                ofTown(0, 50, 2) = 0
                ofTown(0, 50, 3) = 99
                ofTown(0, 50, 4) = 0
                ofTown(0, 50, 5) = 0
                ofTown(0, 99, 6) = 2
                ofTown(0, 99, 8) = 2
                ofTown(0, 99, 9) = 2
                ofTown(0, 99, 10) = 50
                ofTown(0, 50, 11) = 1
                """);
        Script.play("31: 59 neighbours, and the deepest of 60", """
                settle(0, 0, 60, 1) = 60
                lattice(0, 1, 1, 0) = 59
                ofTown(0, 59, 6) = 59
                ofTown(0, 59, 7) = 1
                ofTown(0, 59, 8) = 59
                ofTown(0, 59, 9) = 59
                fan(0, 59, 1, 0) = 59
                ofTown(0, 59, 0) = 59
                ofTown(0, 59, 1) = 59
                ofTown(0, 59, 7) = -1
                ofTown(0, 59, 9) = 0
                """);
        Script.play("31: the exception that is named first, and ahead of EMPTY", """
                settle(0, 1, 2, 1) = 2
                ofTown(2, 1, 2) = throws.IndexOutOfBoundsException
                ofTown(-1, 1, 2) = throws.IndexOutOfBoundsException
                ofTown(1, 1, 2) = throws.IndexOutOfBoundsException
                ofTown(0, 0, 2) = throws.IndexOutOfBoundsException
                ofTown(0, 3, 3) = throws.IndexOutOfBoundsException
                ofTown(0, 3, 12) = throws.IndexOutOfBoundsException
                ofTown(2, 1, -1) = throws.IndexOutOfBoundsException
                ofTown(0, 1, 12) = throws.IllegalArgumentException
                """);
    }

    private static void sums() {
        Script.play("32: what is 0 or 1", Script.FULL + """
                sums(0, -1) = throws.IllegalArgumentException
                sums(0, 0) = 1540
                sums(0, 1) = 59
                sums(0, 2) = throws.IllegalArgumentException
                """);
        Script.play("32: without lines", """
                sums(0, 0) = 0
                sums(0, 1) = 0
                town(0, 1) = true
                sums(0, 0) = 0
                sums(0, 1) = 0
                """);
        Script.play("32: the greatest sums", """
                settle(0, 0, 60, 1) = 60
                ring(0, 1, 1000000000, 0) = 60
                ring(0, 2, 1000000000, 0) = 60
                ring(0, 3, 1000000000, 0) = 60
                ring(0, 4, 1000000000, 0) = 60
                ring(0, 5, 1000000000, 0) = 60
                ring(0, 6, 1000000000, 0) = 60
                ring(0, 7, 1000000000, 0) = 40
                sums(0, 0) = 400000000000
                sums(0, 1) = 59000000000
                """);
        Script.play("32: the exception that is named first", """
                sums(2, 2) = throws.IndexOutOfBoundsException
                sums(-1, -1) = throws.IndexOutOfBoundsException
                sums(2, 0) = throws.IndexOutOfBoundsException
                sums(-1, 1) = throws.IndexOutOfBoundsException
                """);
    }

    private static void length() {
        Script.play("33: of 0, of 1000000000, none, to itself", """
                open(0, true) = 0
                settle(0, 1, 2, 1) = 2
                length(0, 1, 2) = -1
                line(0, 1, 2, 0) = -1
                length(0, 1, 2) = 0
                line(0, 1, 2, 1000000000) = 0
                length(0, 1, 2) = 1000000000
                length(0, 2, 1) = -1
                length(0, 1, 1) = -1
                """);
        Script.play("33: no map, no town from or to of it", """
                settle(0, 1, 2, 1) = 2
                town(1, 3) = true
                length(2, 1, 2) = throws.IndexOutOfBoundsException
                length(-1, 1, 2) = throws.IndexOutOfBoundsException
                length(1, 1, 2) = throws.IndexOutOfBoundsException
                length(0, 0, 2) = throws.IndexOutOfBoundsException
                length(0, 3, 2) = throws.IndexOutOfBoundsException
                length(0, 1, 0) = throws.IndexOutOfBoundsException
                length(0, 1, 3) = throws.IndexOutOfBoundsException
                length(0, 3, 3) = throws.IndexOutOfBoundsException
                """);
    }

    private static void beside() {
        Script.play("34: less than number, number or less, number or more, more than number", HUB + """
                beside(0, 50, 30, 0) = 10
                beside(0, 50, 30, 1) = 30
                beside(0, 50, 30, 2) = 30
                beside(0, 50, 30, 3) = 98
                beside(0, 50, 31, 0) = 30
                beside(0, 50, 31, 1) = 30
                beside(0, 50, 29, 2) = 30
                beside(0, 50, 29, 3) = 30
                beside(0, 50, 50, 1) = 30
                beside(0, 50, 50, 2) = 98
                """);
        Script.play("34: number is 0 to 99", HUB + """
                beside(0, 50, -1, 2) = throws.IllegalArgumentException
                beside(0, 50, 100, 1) = throws.IllegalArgumentException
                beside(0, 50, 0, 0) = -1
                beside(0, 50, 0, 1) = 0
                beside(0, 50, 0, 2) = 0
                beside(0, 50, 0, 3) = 10
                beside(0, 50, 1, 0) = 0
                beside(0, 50, 99, 0) = 98
                beside(0, 50, 99, 1) = 99
                beside(0, 50, 99, 2) = 99
                beside(0, 50, 99, 3) = -1
                beside(0, 50, 98, 3) = 99
                """);
        Script.play("34: how is 0 to 3", HUB + """
                beside(0, 50, 30, -1) = throws.IllegalArgumentException
                beside(0, 50, 30, 4) = throws.IllegalArgumentException
                """);
        Script.play("34: none, though towns beside it have lines", HUB + """
                beside(0, 30, 30, 0) = -1
                beside(0, 30, 30, 1) = -1
                beside(0, 30, 30, 2) = -1
                beside(0, 30, 30, 3) = -1
                beside(0, 99, 99, 1) = -1
                beside(0, 99, 0, 2) = -1
                beside(0, 98, 0, 0) = -1
                beside(0, 98, 1, 2) = -1
                beside(0, 98, 0, 3) = -1
                beside(0, 0, 98, 1) = -1
                beside(0, 0, 99, 3) = -1
                beside(0, 0, 99, 2) = 99
                """);
        Script.play("34: none any more, as the last line of all was taken away", """
                open(0, true) = 0
                settle(0, 97, 3, 1) = 3
                line(0, 98, 97, 1) = -1
                line(0, 98, 99, 1) = -1
                beside(0, 98, 97, 3) = 99
                unline(0, 98, 99) = 1
                beside(0, 98, 97, 3) = -1
                beside(0, 98, 98, 2) = -1
                beside(0, 98, 98, 0) = 97
                """);
        Script.play("34: the exception that is named first", HUB + """
                beside(2, 50, 30, 1) = throws.IndexOutOfBoundsException
                beside(-1, 50, 100, 4) = throws.IndexOutOfBoundsException
                beside(0, 51, 30, 1) = throws.IndexOutOfBoundsException
                beside(0, 51, 100, 1) = throws.IndexOutOfBoundsException
                beside(0, 100, 30, -1) = throws.IndexOutOfBoundsException
                beside(1, 50, 30, 1) = throws.IndexOutOfBoundsException
                """);
    }

    private static void windowBounds() {
        Script.play("35: low and high are 0 to 100", HUB + """
                window(0, 50, -1, 100, 0) = throws.IllegalArgumentException
                window(0, 50, 101, 101, 0) = throws.IllegalArgumentException
                window(0, 50, 0, -1, 0) = throws.IllegalArgumentException
                window(0, 50, 0, 101, 0) = throws.IllegalArgumentException
                window(0, 50, 0, 100, 0) = 5
                window(0, 50, 0, 99, 0) = 4
                window(0, 50, 1, 100, 0) = 4
                window(0, 50, 100, 100, 0) = 0
                window(0, 50, 0, 0, 0) = 0
                """);
        Script.play("35: what is 0 to 3", HUB + """
                window(0, 50, 0, 100, -1) = throws.IllegalArgumentException
                window(0, 50, 0, 100, 4) = throws.IllegalArgumentException
                """);
        Script.play("35: WRONG if low is more than high", HUB + """
                window(0, 50, 30, 30, 0) = 0
                window(0, 50, 31, 30, 0) = -7
                window(0, 50, 31, 30, 1) = -7
                window(0, 50, 31, 30, 2) = -7
                window(0, 50, 31, 30, 3) = -7
                window(0, 50, 100, 99, 0) = -7
                window(0, 50, 1, 0, 0) = -7
                window(0, 50, 100, 0, 0) = -7
                """);
        Script.play("35: exceptions go ahead of WRONG and EMPTY, that which is named first of all", HUB + """
                window(0, 50, 101, 0, 0) = throws.IllegalArgumentException
                window(0, 50, 0, -1, 1) = throws.IllegalArgumentException
                window(0, 50, 9, 8, 4) = throws.IllegalArgumentException
                window(0, 50, 9, 8, -1) = throws.IllegalArgumentException
                window(0, 51, 9, 8, 0) = throws.IndexOutOfBoundsException
                window(0, 51, 0, 0, 1) = throws.IndexOutOfBoundsException
                window(2, 50, 9, 8, 0) = throws.IndexOutOfBoundsException
                window(2, 50, 101, -1, 4) = throws.IndexOutOfBoundsException
                window(-1, 50, 0, 100, 4) = throws.IndexOutOfBoundsException
                window(1, 50, 0, 100, 0) = throws.IndexOutOfBoundsException
                window(0, -1, 0, 100, 4) = throws.IndexOutOfBoundsException
                """);
    }

    private static void window() {
        Script.play("35: low or more, but less than high", HUB + """
                window(0, 50, 10, 30, 0) = 1
                window(0, 50, 10, 31, 0) = 2
                window(0, 50, 11, 30, 0) = 0
                window(0, 50, 99, 100, 0) = 1
                window(0, 50, 10, 30, 1) = 10
                window(0, 50, 10, 30, 2) = 10
                window(0, 50, 9, 31, 1) = 10
                window(0, 50, 9, 31, 2) = 30
                window(0, 50, 99, 100, 1) = 99
                window(0, 50, 0, 1, 2) = 0
                """);
        Script.play("35: EMPTY, or no length", HUB + """
                window(0, 50, 11, 30, 1) = -9
                window(0, 50, 11, 30, 2) = -9
                window(0, 50, 11, 30, 3) = -1
                window(0, 50, 30, 30, 1) = -9
                window(0, 50, 30, 30, 2) = -9
                window(0, 50, 30, 30, 3) = -1
                window(0, 50, 100, 100, 1) = -9
                window(0, 30, 0, 100, 0) = 0
                window(0, 30, 0, 100, 1) = -9
                window(0, 30, 0, 100, 2) = -9
                window(0, 30, 0, 100, 3) = -1
                """);
        Script.play("35: the greatest length, of 0 and of 1000000000", HUB + """
                window(0, 50, 10, 11, 3) = 0
                window(0, 50, 0, 30, 3) = 4
                window(0, 50, 0, 31, 3) = 1000000000
                window(0, 50, 31, 100, 3) = 3
                """);
    }

    private static void lines() {
        Script.play("36: none, one, two", """
                town(0, 99) = true
                lines(0, 99) = ""
                town(0, 0) = true
                line(0, 99, 0, 0) = -1
                lines(0, 99) = "0:0"
                town(0, 50) = true
                line(0, 50, 99, 1000000000) = -1
                lines(0, 99) = "0:0 50:1000000000"
                """);
        Script.play("36: lines that lead to it alone", HUB + """
                lines(0, 10) = ""
                lines(0, 30) = ""
                lines(0, 11) = "50:1"
                """);
        StringBuilder all = new StringBuilder("0:1000000000");
        for (int to = 1; to < 59; to++) {
            all.append(" ").append(to).append(":1000000000");
        }
        Script.play("36: all of 59", "settle(0, 0, 60, 1) = 60\nfan(0, 59, 1000000000, 0) = 59\nlines(0, 59) = \"" + all
                + "\"\n");
        Script.play("36: no map, no town of it", HUB + """
                lines(2, 50) = throws.IndexOutOfBoundsException
                lines(-1, 50) = throws.IndexOutOfBoundsException
                lines(1, 50) = throws.IndexOutOfBoundsException
                lines(0, 49) = throws.IndexOutOfBoundsException
                lines(0, -1) = throws.IndexOutOfBoundsException
                lines(0, 100) = throws.IndexOutOfBoundsException
                """);
    }

    private static void common() {
        Script.play("37: what is 0 to 3, of empty maps", """
                common(-1) = throws.IllegalArgumentException
                common(0) = 0
                common(1) = 0
                common(2) = 0
                common(3) = 1
                common(4) = throws.IllegalArgumentException
                """);
        Script.play("37: of full maps", Script.FULL + Script.FULL_DIRECTED + """
                common(0) = 60
                common(1) = 400
                common(2) = 400
                common(3) = 0
                copy(1) = 400
                common(1) = 800
                common(2) = 800
                common(3) = 1
                """);
        Script.play("37: a pair counts from the one to the other", """
                settle(0, 1, 3, 1) = 3
                open(1, true) = 0
                settle(1, 2, 3, 1) = 3
                line(0, 2, 3, 0) = -1
                line(1, 3, 2, 0) = -1
                common(0) = 2
                common(1) = 1
                common(2) = 1
                line(1, 2, 3, 1) = -1
                common(1) = 2
                common(2) = 1
                """);
    }

    private static void alike() {
        Script.play("37: alike but for the manner, a town, a line, a length", """
                settle(0, 1, 2, 1) = 2
                settle(1, 1, 2, 1) = 2
                common(3) = 1
                line(0, 1, 2, 0) = -1
                common(3) = 0
                line(1, 2, 1, 1) = -1
                common(3) = 0
                line(1, 2, 1, 0) = 1
                common(3) = 1
                town(1, 99) = true
                common(3) = 0
                town(0, 98) = true
                common(3) = 0
                keep(0) = 1
                keep(1) = 1
                common(3) = 1
                """);
        Script.play("37: one is directed", """
                open(1, true) = 0
                common(3) = 0
                open(0, true) = 0
                common(3) = 1
                settle(0, 1, 2, 1) = 2
                copy(1) = 0
                line(0, 1, 2, 5) = -1
                line(1, 2, 1, 5) = -1
                common(3) = 0
                turn(1) = 1
                common(3) = 1
                """);
    }
}
