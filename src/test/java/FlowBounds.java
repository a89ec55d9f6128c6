/** The boundary cases of promises 54 and 55, and of section 4. */
public final class FlowBounds {
    public static void main(String[] args) {
        none();
        zero();
        greatest();
        fewest();
        bothWays();
        texts();
        refused();
        Check.end();
    }

    private static void none() {
        Script.play("54, 55: no way", """
                settle(0, 1, 3, 1) = 3
                flow(0, 1, 2) = 0
                cut(0, 1, 2, false) = "1"
                cut(0, 1, 2, true) = ""
                line(0, 1, 3, 5) = -1
                flow(0, 1, 2) = 0
                cut(0, 1, 2, false) = "1-3"
                cut(0, 1, 2, true) = ""
                cut(0, 2, 1, false) = "2"
                """);
        Script.play("54, 55: lines lead the other way alone", """
                open(0, true) = 0
                settle(0, 0, 2, 1) = 2
                line(0, 1, 0, 1000000000) = -1
                flow(0, 0, 1) = 0
                cut(0, 0, 1, false) = "0"
                cut(0, 0, 1, true) = ""
                flow(0, 1, 0) = 1000000000
                cut(0, 1, 0, true) = "1>0"
                """);
    }

    private static void zero() {
        Script.play("54, 55: a length of 0 carries nothing, and is told all the same", """
                settle(0, 0, 3, 1) = 3
                line(0, 0, 1, 0) = -1
                line(0, 1, 2, 5) = -1
                flow(0, 0, 2) = 0
                cut(0, 0, 2, false) = "0"
                cut(0, 0, 2, true) = "0>1"
                cut(0, 2, 0, false) = "1-2"
                cut(0, 2, 0, true) = "1>0"
                line(0, 0, 2, 0) = -1
                cut(0, 0, 2, true) = "0>1 0>2"
                line(0, 0, 1, 1) = 0
                flow(0, 0, 2) = 1
                cut(0, 0, 2, true) = "0>1 0>2"
                """);
    }

    private static void greatest() {
        Script.play("54: more than an int holds", """
                settle(0, 0, 4, 1) = 4
                fan(0, 0, 1000000000, 0) = 3
                fan(0, 3, 1000000000, 0) = 3
                flow(0, 0, 3) = 3000000000
                flow(0, 3, 0) = 3000000000
                cut(0, 0, 3, false) = "0"
                cut(0, 0, 3, true) = "0>1 0>2 0>3"
                """);
        Script.play("54: 59 lines of 1000000000", """
                settle(0, 40, 60, 1) = 60
                fan(0, 40, 1000000000, 0) = 59
                fan(0, 99, 1000000000, 0) = 59
                flow(0, 40, 99) = 59000000000
                line(0, 40, 99, 0) = 1000000000
                flow(0, 40, 99) = 58000000000
                cut(0, 99, 40, false) = "99"
                """);
        Script.play("54: of 400 lines the last ones carry, too", Script.FULL + """
                flow(0, 59, 58) = 42
                cut(0, 59, 58, false) = "59"
                cut(0, 59, 58, true) = "59>0 59>1 59>2 59>3 59>4 59>5 59>53 59>54 59>55 59>56 59>57 59>58"
                """);
        Script.play("54: directed, a line and one back, both as long as can be", """
                open(0, true) = 0
                settle(0, 0, 4, 1) = 4
                line(0, 0, 1, 1000000000) = -1
                line(0, 0, 2, 1000000000) = -1
                line(0, 1, 2, 1000000000) = -1
                line(0, 2, 1, 1000000000) = -1
                line(0, 1, 3, 1000000000) = -1
                line(0, 2, 3, 1000000000) = -1
                flow(0, 0, 3) = 2000000000
                line(0, 0, 2, 0) = 1000000000
                flow(0, 0, 3) = 1000000000
                cut(0, 0, 3, false) = "0"
                line(0, 1, 3, 0) = 1000000000
                flow(0, 0, 3) = 1000000000
                """);
    }

    private static void fewest() {
        Script.play("55: of several with the least sum that with the fewest towns", """
                settle(0, 0, 4, 1) = 4
                lattice(0, 1, 5, 0) = 3
                cut(0, 0, 3, false) = "0"
                cut(0, 3, 0, false) = "3"
                cut(0, 0, 3, true) = "0>1"
                line(0, 0, 1, 6) = 5
                cut(0, 0, 3, false) = "0-1"
                cut(0, 0, 3, true) = "1>2"
                line(0, 2, 3, 4) = 5
                cut(0, 0, 3, false) = "0-1-2"
                cut(0, 3, 0, false) = "3"
                """);
        Script.play("55: all towns but the other one", """
                settle(0, 0, 60, 1) = 60
                lattice(0, 1, 1000000000, 0) = 59
                line(0, 58, 59, 999999999) = 1000000000
                flow(0, 0, 59) = 999999999
                cut(0, 0, 59, true) = "58>59"
                cut(0, 59, 0, false) = "59"
                cut(0, 59, 0, true) = "59>58"
                """);
    }

    private static void bothWays() {
        Script.play("54: a line that leads both ways carries one way only", """
                settle(0, 0, 2, 1) = 2
                line(0, 0, 1, 7) = -1
                flow(0, 0, 1) = 7
                flow(0, 1, 0) = 7
                """);
        Script.play("54: what went along a line first goes back, along a line of both ways as much again", """
                settle(0, 0, 6, 1) = 6
                line(0, 0, 1, 1) = -1
                line(0, 1, 2, 1) = -1
                line(0, 2, 5, 1) = -1
                line(0, 0, 3, 1) = -1
                line(0, 3, 2, 1) = -1
                line(0, 1, 4, 1) = -1
                line(0, 4, 5, 1) = -1
                flow(0, 0, 5) = 2
                flow(0, 5, 0) = 2
                cut(0, 0, 5, false) = "0"
                cut(0, 5, 0, false) = "5"
                """);
        Script.play("54: directed, what went along a line first goes back whole, but no more", """
                open(0, true) = 0
                settle(0, 0, 6, 1) = 6
                line(0, 0, 1, 1) = -1
                line(0, 1, 2, 1) = -1
                line(0, 2, 5, 1) = -1
                line(0, 0, 3, 2) = -1
                line(0, 3, 2, 2) = -1
                line(0, 1, 4, 2) = -1
                line(0, 4, 5, 2) = -1
                flow(0, 0, 5) = 2
                cut(0, 0, 5, false) = "0-2-3"
                cut(0, 0, 5, true) = "0>1 2>5"
                line(0, 0, 1, 1000000000) = 1
                line(0, 1, 2, 1000000000) = 1
                line(0, 2, 5, 1000000000) = 1
                line(0, 0, 3, 1000000000) = 2
                line(0, 3, 2, 1000000000) = 2
                line(0, 1, 4, 1000000000) = 2
                line(0, 4, 5, 1000000000) = 2
                flow(0, 0, 5) = 2000000000
                cut(0, 0, 5, false) = "0"
                """);
        Script.play("55: lines that lead into the cut are not told", """
                open(0, true) = 0
                settle(0, 0, 3, 1) = 3
                line(0, 0, 1, 2) = -1
                line(0, 1, 0, 1) = -1
                line(0, 2, 0, 1) = -1
                line(0, 1, 2, 3) = -1
                flow(0, 0, 2) = 2
                cut(0, 0, 2, true) = "0>1"
                """);
    }

    private static void texts() {
        StringBuilder lines = new StringBuilder("59>0");
        StringBuilder towns = new StringBuilder("0");
        for (int to = 1; to < 59; to++) {
            lines.append(" 59>").append(to);
            towns.append("-").append(to);
        }
        Script.play("55: 59 lines, and 59 towns", "settle(0, 0, 60, 1) = 60\nfan(0, 59, 0, 0) = 59\n"
                + "cut(0, 59, 0, true) = \"" + lines + "\"\nfan(0, 0, 9, 0) = 59\nline(0, 0, 59, 0) = 9\n"
                + "cut(0, 0, 59, false) = \"" + towns + "\"\n");
    }

    private static void refused() {
        String bad = """
                (2, 1, 2) = throws.IndexOutOfBoundsException
                (-1, 1, 1) = throws.IndexOutOfBoundsException
                (1, 1, 2) = throws.IndexOutOfBoundsException
                (0, 0, 2) = throws.IndexOutOfBoundsException
                (0, 1, 3) = throws.IndexOutOfBoundsException
                (0, 3, 3) = throws.IndexOutOfBoundsException
                (0, 100, 100) = throws.IndexOutOfBoundsException
                (0, 1, 1) = throws.IllegalArgumentException
                (0, 2, 2) = throws.IllegalArgumentException
                """;
        String ofCut = bad.replace("(", "cut(");
        Script.play("54: no map, no town, then from is to", Script.TWO_TOWNS + bad.replace("(", "flow("));
        Script.play("55: no map, no town, then from is to",
                Script.TWO_TOWNS + ofCut.replace(")", ", true)") + ofCut.replace(")", ", false)"));
    }
}
