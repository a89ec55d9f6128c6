/** The boundary cases of promises 7 to 16, and of the sentences on LINES and SERIES in section 1. */
public final class LineBounds {
    public static void main(String[] args) {
        line();
        fullOfLines();
        unline();
        ring();
        ringLengths();
        fan();
        lattice();
        latticeLengths();
        stretch();
        prune();
        turn();
        copy();
        join();
        joinBounds();
        Check.end();
    }

    private static void line() {
        Script.play("7: lengths of 0 to 1000000000", """
                settle(0, 1, 2, 1) = 2
                line(0, 1, 2, -1) = throws.IllegalArgumentException
                line(0, 1, 2, 0) = -1
                line(0, 1, 2, 1000000000) = 0
                line(0, 1, 2, 1000000001) = throws.IllegalArgumentException
                line(0, 1, 2, -1) = throws.IllegalArgumentException
                length(0, 1, 2) = 1000000000
                """);
        Script.play("7: never to itself", """
                settle(0, 0, 2, 1) = 2
                line(0, 0, 0, 5) = throws.IllegalArgumentException
                line(0, 1, 1, 5) = throws.IllegalArgumentException
                open(1, true) = 0
                town(1, 99) = true
                line(1, 99, 99, 0) = throws.IllegalArgumentException
                ofMap(0, 1) = 0
                ofMap(1, 1) = 0
                """);
        Script.play("7: from the smallest number to the greatest one", """
                town(0, 0) = true
                town(0, 99) = true
                line(0, 99, 0, 7) = -1
                length(0, 0, 99) = 7
                lines(0, 99) = "0:7"
                lines(0, 0) = "99:7"
                """);
        Script.play("7: not directed, at most one line between two towns, which counts once", """
                settle(0, 1, 2, 1) = 2
                line(0, 1, 2, 0) = -1
                line(0, 2, 1, 5) = 0
                line(0, 1, 2, 6) = 5
                ofMap(0, 1) = 1
                length(0, 2, 1) = 6
                """);
        Script.play("7: directed, there may be another one back", """
                open(0, true) = 0
                settle(0, 1, 2, 1) = 2
                line(0, 1, 2, 0) = -1
                line(0, 2, 1, 5) = -1
                line(0, 1, 2, 6) = 0
                ofMap(0, 1) = 2
                length(0, 2, 1) = 5
                length(0, 1, 2) = 6
                """);
        Script.play("7: no town from, no town to, no map", """
                settle(0, 1, 2, 1) = 2
                town(1, 3) = true
                line(0, 0, 1, 5) = throws.IndexOutOfBoundsException
                line(0, 3, 1, 5) = throws.IndexOutOfBoundsException
                line(0, 1, 0, 5) = throws.IndexOutOfBoundsException
                line(0, 1, 3, 5) = throws.IndexOutOfBoundsException
                line(2, 1, 2, 5) = throws.IndexOutOfBoundsException
                line(-1, 1, 2, 5) = throws.IndexOutOfBoundsException
                """);
        Script.play("7: the exception that is named first", Script.FULL + """
                line(0, 60, 60, -1) = throws.IndexOutOfBoundsException
                line(0, 60, 0, 5) = throws.IndexOutOfBoundsException
                line(2, 0, 0, 1000000001) = throws.IndexOutOfBoundsException
                line(0, 30, 30, 5) = throws.IllegalArgumentException
                line(0, 0, 30, -1) = throws.IllegalArgumentException
                line(0, 0, 30, 1000000001) = throws.IllegalArgumentException
                line(0, 0, 30, 5) = throws.IllegalStateException
                """);
    }

    private static void fullOfLines() {
        Script.play("7: the 400th line, not the 401st", Script.FULL + """
                unline(0, 0, 1) = 1
                ofMap(0, 1) = 399
                line(0, 0, 30, 5) = -1
                ofMap(0, 1) = 400
                line(0, 0, 31, 5) = throws.IllegalStateException
                line(0, 31, 0, 5) = throws.IllegalStateException
                ofMap(0, 1) = 400
                """);
        Script.play("7: with 400 a line that is there gets its length, from either end", Script.FULL + """
                line(0, 0, 1, 9) = 1
                line(0, 1, 0, 8) = 9
                length(0, 0, 1) = 8
                ofMap(0, 1) = 400
                """);
        Script.play("7: directed, the 400th, not the 401st", Script.FULL_DIRECTED + """
                line(1, 1, 0, 5) = throws.IllegalStateException
                line(1, 0, 1, 5) = 1
                unline(1, 0, 1) = 5
                line(1, 1, 0, 4) = -1
                line(1, 0, 1, 4) = throws.IllegalStateException
                ofMap(1, 1) = 400
                """);
        Script.play("7: each map has room for 400", Script.FULL + Script.FULL_DIRECTED + """
                ofMap(0, 1) = 400
                ofMap(1, 1) = 400
                isSound() = true
                """);
    }

    private static void unline() {
        Script.play("8: the length which it had, or none", """
                settle(0, 1, 3, 1) = 3
                line(0, 1, 2, 0) = -1
                line(0, 2, 3, 1000000000) = -1
                unline(0, 1, 3) = -1
                unline(0, 2, 1) = 0
                unline(0, 2, 1) = -1
                unline(0, 2, 3) = 1000000000
                ofMap(0, 1) = 0
                unline(0, 1, 1) = -1
                """);
        Script.play("8: directed, the one back stays", """
                open(0, true) = 0
                settle(0, 1, 2, 1) = 2
                line(0, 1, 2, 4) = -1
                unline(0, 2, 1) = -1
                line(0, 2, 1, 5) = -1
                unline(0, 1, 2) = 4
                length(0, 2, 1) = 5
                ofMap(0, 1) = 1
                """);
        Script.play("8: a place is free again", Script.FULL + """
                line(0, 0, 30, 5) = throws.IllegalStateException
                unline(0, 59, 0) = 1
                line(0, 0, 30, 5) = -1
                line(0, 0, 31, 5) = throws.IllegalStateException
                """);
        Script.play("8: no map, no town", """
                settle(0, 1, 2, 1) = 2
                line(0, 1, 2, 4) = -1
                unline(2, 1, 2) = throws.IndexOutOfBoundsException
                unline(-1, 1, 2) = throws.IndexOutOfBoundsException
                unline(1, 1, 2) = throws.IndexOutOfBoundsException
                unline(0, 0, 2) = throws.IndexOutOfBoundsException
                unline(0, 1, 3) = throws.IndexOutOfBoundsException
                unline(0, 3, 3) = throws.IndexOutOfBoundsException
                """);
    }

    private static void ring() {
        Script.play("9: leap is 1 to 59", """
                open(0, true) = 0
                settle(0, 0, 60, 1) = 60
                ring(0, 0, 1, 1) = throws.IllegalArgumentException
                ring(0, 60, 1, 1) = throws.IllegalArgumentException
                ring(0, 1, 7, 0) = 60
                ring(0, 59, 8, 0) = 60
                lines(0, 0) = "1:7 59:8"
                lines(0, 59) = "0:7 58:8"
                """);
        Script.play("9: more towns than leap", """
                ring(0, 1, 1, 1) = throws.IllegalStateException
                town(0, 5) = true
                ring(0, 1, 1, 1) = throws.IllegalStateException
                town(0, 6) = true
                ring(0, 2, 1, 1) = throws.IllegalStateException
                ring(0, 1, 3, 4) = 2
                ofMap(0, 1) = 1
                length(0, 5, 6) = 7
                settle(1, 0, 59, 1) = 59
                ring(1, 59, 1, 1) = throws.IllegalStateException
                ring(1, 58, 1, 1) = 59
                """);
        Script.play("9: two towns of a directed map", """
                open(0, true) = 0
                settle(0, 5, 2, 1) = 2
                ring(0, 1, 3, 4) = 2
                length(0, 5, 6) = 3
                length(0, 6, 5) = 7
                """);
        Script.play("9: one that is laid twice counts twice, and has the later length", """
                settle(0, 0, 4, 1) = 4
                ring(0, 2, 10, 1) = 4
                ofMap(0, 1) = 2
                length(0, 0, 2) = 12
                length(0, 1, 3) = 13
                """);
        Script.play("9: where none fits, the count is used up all the same", Script.FULL + """
                unline(0, 0, 7) = 7
                line(0, 50, 57, 9) = -1
                ring(0, 7, 100, 1) = 40
                length(0, 0, 7) = -1
                length(0, 1, 8) = 101
                length(0, 39, 46) = 139
                length(0, 40, 47) = -1
                length(0, 50, 57) = 150
                ofMap(0, 1) = 400
                ring(0, 8, 1, 1) = 0
                """);
        Script.play("9: the exception that is named first", """
                ring(2, 0, -1, -1) = throws.IndexOutOfBoundsException
                ring(-1, 1, 1, 1) = throws.IndexOutOfBoundsException
                ring(0, 60, 1, 1) = throws.IllegalArgumentException
                ring(0, 0, 1, 1) = throws.IllegalArgumentException
                ring(0, 1, -1, 1) = throws.IllegalArgumentException
                ring(0, 1, 1, 1000000001) = throws.IllegalArgumentException
                ring(0, 1, 1, 1) = throws.IllegalStateException
                """);
    }

    private static void ringLengths() {
        Script.play("9: length and more are 0 to 1000000000", """
                settle(0, 0, 3, 1) = 3
                ring(0, 1, -1, 0) = throws.IllegalArgumentException
                ring(0, 1, 1000000001, 0) = throws.IllegalArgumentException
                ring(0, 1, 0, -1) = throws.IllegalArgumentException
                ring(0, 1, 0, 1000000001) = throws.IllegalArgumentException
                ring(0, 1, 0, 0) = 3
                sums(0, 0) = 0
                ring(0, 1, 1000000000, 0) = 3
                sums(0, 0) = 3000000000
                """);
        Script.play("9: a length of 1000000000 stays, what is more goes round", """
                open(0, true) = 0
                settle(0, 1, 3, 1) = 3
                ring(0, 1, 999999999, 1) = 3
                lines(0, 1) = "2:999999999"
                lines(0, 2) = "3:1000000000"
                lines(0, 3) = "1:0"
                ring(0, 1, 1, 1000000000) = 3
                lines(0, 1) = "2:1"
                lines(0, 2) = "3:0"
                lines(0, 3) = "1:1000000000"
                ring(0, 1, 1000000000, 1000000000) = 3
                lines(0, 1) = "2:1000000000"
                lines(0, 2) = "3:999999999"
                lines(0, 3) = "1:999999998"
                """);
        Script.play("9: it goes round 59 times", """
                settle(0, 0, 60, 1) = 60
                ring(0, 1, 1000000000, 1000000000) = 60
                length(0, 59, 0) = 999999941
                """);
    }

    private static void fan() {
        Script.play("10: a hub alone, and with one other", """
                town(0, 50) = true
                fan(0, 50, 1, 1) = 0
                ofMap(0, 1) = 0
                town(0, 49) = true
                fan(0, 50, 8, 1) = 1
                lines(0, 50) = "49:8"
                """);
        Script.play("10: to each of 59, and the hub has no count", """
                settle(0, 0, 60, 1) = 60
                fan(0, 1, 10, 1) = 59
                length(0, 1, 0) = 10
                length(0, 1, 2) = 11
                length(0, 1, 59) = 68
                fan(0, 0, 10, 1) = 59
                length(0, 0, 1) = 10
                length(0, 0, 59) = 68
                fan(0, 59, 10, 1) = 59
                length(0, 59, 0) = 10
                length(0, 59, 58) = 68
                """);
        Script.play("10: directed, it leads from the hub alone", """
                open(0, true) = 0
                settle(0, 1, 3, 1) = 3
                fan(0, 2, 5, 5) = 2
                lines(0, 2) = "1:5 3:10"
                lines(0, 1) = ""
                lines(0, 3) = ""
                """);
        Script.play("10: where none fits, the count is used up all the same", Script.FULL + """
                fan(0, 30, 100, 1) = 14
                length(0, 30, 22) = -1
                length(0, 30, 23) = 123
                length(0, 30, 29) = 129
                length(0, 30, 31) = 130
                length(0, 30, 37) = 136
                length(0, 30, 38) = -1
                ofMap(0, 1) = 400
                """);
        Script.play("10: one fits, by rising numbers", Script.FULL + """
                unline(0, 5, 6) = 1
                fan(0, 30, 100, 1) = 15
                length(0, 30, 0) = 100
                length(0, 30, 1) = -1
                """);
        Script.play("10: length and more are 0 to 1000000000", """
                settle(0, 0, 3, 1) = 3
                fan(0, 0, -1, 0) = throws.IllegalArgumentException
                fan(0, 0, 1000000001, 0) = throws.IllegalArgumentException
                fan(0, 0, 0, -1) = throws.IllegalArgumentException
                fan(0, 0, 0, 1000000001) = throws.IllegalArgumentException
                fan(0, 0, 1000000000, 1) = 2
                lines(0, 0) = "1:1000000000 2:0"
                fan(0, 0, 0, 1000000000) = 2
                lines(0, 0) = "1:0 2:1000000000"
                fan(0, 0, 1, 1000000000) = 2
                lines(0, 0) = "1:1 2:0"
                """);
        Script.play("10: no map, no town, which goes ahead", """
                settle(0, 1, 2, 1) = 2
                fan(2, 1, 1, 1) = throws.IndexOutOfBoundsException
                fan(-1, 1, -1, 1) = throws.IndexOutOfBoundsException
                fan(1, 1, 1, 1) = throws.IndexOutOfBoundsException
                fan(0, 0, 1, 1) = throws.IndexOutOfBoundsException
                fan(0, 3, 1, -1) = throws.IndexOutOfBoundsException
                """);
    }

    private static void lattice() {
        Script.play("11: wide is 1 to 20", """
                settle(0, 0, 60, 1) = 60
                lattice(0, 0, 1, 1) = throws.IllegalArgumentException
                lattice(0, 21, 1, 1) = throws.IllegalArgumentException
                lattice(0, 1, 1, 0) = 59
                lattice(0, 20, 1, 0) = 97
                ofMap(0, 1) = 99
                """);
        Script.play("11: no town, one, two", """
                lattice(0, 1, 1, 1) = 0
                lattice(0, 20, 1, 1) = 0
                town(0, 9) = true
                lattice(0, 1, 1, 1) = 0
                lattice(0, 20, 1, 1) = 0
                ofMap(0, 1) = 0
                town(0, 8) = true
                lattice(0, 1, 5, 1) = 1
                length(0, 8, 9) = 5
                lattice(0, 2, 6, 1) = 1
                length(0, 8, 9) = 6
                lattice(0, 20, 7, 1) = 1
                length(0, 8, 9) = 7
                """);
        Script.play("11: as many towns as wide, and one more", """
                settle(0, 0, 3, 1) = 3
                lattice(0, 3, 10, 1) = 2
                lines(0, 1) = "0:10 2:11"
                lines(0, 0) = "1:10"
                town(0, 3) = true
                lattice(0, 3, 20, 1) = 3
                lines(0, 0) = "1:20 3:21"
                lines(0, 1) = "0:20 2:22"
                lines(0, 2) = "1:22"
                lines(0, 3) = "0:21"
                """);
        Script.play("11: beside first, then below; what is not named has no count", """
                open(0, true) = 0
                settle(0, 1, 6, 1) = 6
                lattice(0, 2, 10, 1) = 7
                lines(0, 1) = "2:10 3:11"
                lines(0, 2) = "4:12"
                lines(0, 3) = "4:13 5:14"
                lines(0, 4) = "6:15"
                lines(0, 5) = "6:16"
                lines(0, 6) = ""
                """);
        Script.play("11: where none fits, the count is used up all the same", Script.FULL + """
                lattice(0, 20, 100, 1) = 57
                length(0, 0, 1) = 100
                length(0, 0, 20) = -1
                length(0, 1, 2) = 102
                length(0, 19, 20) = 1
                length(0, 20, 21) = 139
                length(0, 58, 59) = 196
                ofMap(0, 1) = 400
                """);
    }

    private static void latticeLengths() {
        Script.play("11: length and more are 0 to 1000000000", """
                settle(0, 0, 3, 1) = 3
                lattice(0, 1, -1, 0) = throws.IllegalArgumentException
                lattice(0, 1, 1000000001, 0) = throws.IllegalArgumentException
                lattice(0, 1, 0, -1) = throws.IllegalArgumentException
                lattice(0, 1, 0, 1000000001) = throws.IllegalArgumentException
                lattice(0, 1, 1000000000, 1) = 2
                lines(0, 1) = "0:1000000000 2:0"
                lattice(0, 1, 0, 1000000000) = 2
                lines(0, 1) = "0:0 2:1000000000"
                lattice(0, 1, 1, 1000000000) = 2
                lines(0, 1) = "0:1 2:0"
                """);
        Script.play("11: it goes round more than a hundred times", """
                settle(0, 0, 60, 1) = 60
                lattice(0, 8, 1000000000, 1000000000) = 104
                length(0, 58, 59) = 999999897
                """);
        Script.play("11: no map, which goes ahead", """
                settle(0, 0, 2, 1) = 2
                lattice(2, 1, 1, 1) = throws.IndexOutOfBoundsException
                lattice(-1, 0, -1, -1) = throws.IndexOutOfBoundsException
                """);
    }

    private static void stretch() {
        Script.play("12: by is -1000000000 to 1000000000", """
                settle(0, 1, 3, 1) = 3
                line(0, 1, 2, 0) = -1
                line(0, 1, 3, 1) = -1
                stretch(0, 1, 1000000001) = throws.IllegalArgumentException
                stretch(0, 1, -1000000001) = throws.IllegalArgumentException
                stretch(0, 1, 1000000000) = 2
                lines(0, 1) = "2:1000000000 3:1000000000"
                stretch(0, 1, -1000000000) = 2
                lines(0, 1) = "2:0 3:0"
                """);
        Script.play("12: never more than 1000000000; one that has it stays", """
                settle(0, 1, 3, 1) = 3
                line(0, 1, 2, 999999999) = -1
                line(0, 1, 3, 999999998) = -1
                stretch(0, 1, 1) = 2
                lines(0, 1) = "2:1000000000 3:999999999"
                stretch(0, 1, 2) = 1
                lines(0, 1) = "2:1000000000 3:1000000000"
                stretch(0, 1, 1) = 0
                stretch(0, 1, 1000000000) = 0
                """);
        Script.play("12: never less than 0; one that has it stays", """
                settle(0, 1, 3, 1) = 3
                line(0, 1, 2, 1) = -1
                line(0, 1, 3, 2) = -1
                stretch(0, 1, -1) = 2
                lines(0, 1) = "2:0 3:1"
                stretch(0, 1, -2) = 1
                lines(0, 1) = "2:0 3:0"
                stretch(0, 1, -1) = 0
                stretch(0, 1, -1000000000) = 0
                """);
        Script.play("12: by nothing, and without lines", """
                settle(0, 1, 3, 1) = 3
                line(0, 1, 2, 5) = -1
                stretch(0, 1, 0) = 0
                stretch(0, 3, 7) = 0
                lines(0, 1) = "2:5"
                """);
        Script.play("12: those that lead from it, not those that lead to it", """
                open(0, true) = 0
                settle(0, 1, 2, 1) = 2
                line(0, 2, 1, 5) = -1
                stretch(0, 1, 3) = 0
                line(0, 1, 2, 6) = -1
                stretch(0, 1, 3) = 1
                length(0, 2, 1) = 5
                length(0, 1, 2) = 9
                """);
        Script.play("12: to 0 and to 99; lines of the towns beside it stay", """
                open(0, true) = 0
                settle(0, 49, 3, 1) = 3
                town(0, 0) = true
                town(0, 99) = true
                line(0, 49, 99, 1) = -1
                line(0, 50, 0, 2) = -1
                line(0, 50, 99, 3) = -1
                line(0, 51, 0, 4) = -1
                stretch(0, 50, 10) = 2
                lines(0, 49) = "99:1"
                lines(0, 50) = "0:12 99:13"
                lines(0, 51) = "0:4"
                """);
        Script.play("12: each of 59", """
                settle(0, 0, 60, 1) = 60
                fan(0, 59, 1, 0) = 59
                stretch(0, 59, -1) = 59
                sums(0, 0) = 0
                """);
        Script.play("12: no map, no town, which goes ahead", """
                settle(0, 1, 2, 1) = 2
                line(0, 1, 2, 5) = -1
                stretch(2, 1, 1) = throws.IndexOutOfBoundsException
                stretch(-1, 1, 1000000001) = throws.IndexOutOfBoundsException
                stretch(1, 1, 1) = throws.IndexOutOfBoundsException
                stretch(0, 0, 1) = throws.IndexOutOfBoundsException
                stretch(0, 3, -1000000001) = throws.IndexOutOfBoundsException
                """);
    }

    private static void prune() {
        String hub = """
                open(0, true) = 0
                settle(0, 0, 12, 9) = 12
                fan(0, 45, 1, 1) = 11
                line(0, 54, 45, 3) = -1
                """;
        Script.play("13: low and high are 0 to 100", hub + """
                prune(0, 45, -1, 50) = throws.IllegalArgumentException
                prune(0, 45, 101, 101) = throws.IllegalArgumentException
                prune(0, 45, 0, -1) = throws.IllegalArgumentException
                prune(0, 45, 0, 101) = throws.IllegalArgumentException
                prune(0, 45, 100, 100) = 0
                prune(0, 45, 0, 0) = 0
                prune(0, 45, 0, 100) = 11
                lines(0, 45) = ""
                lines(0, 54) = "45:3"
                """);
        Script.play("13: low or more, but less than high", hub + """
                prune(0, 45, 9, 9) = 0
                prune(0, 45, 10, 18) = 0
                prune(0, 45, 9, 18) = 1
                prune(0, 45, 90, 99) = 1
                prune(0, 45, 99, 100) = 1
                prune(0, 45, 0, 1) = 1
                lines(0, 45) = "18:3 27:4 36:5 54:6 63:7 72:8 81:9"
                """);
        Script.play("13: WRONG if low is more than high", hub + """
                prune(0, 45, 54, 54) = 0
                prune(0, 45, 55, 54) = -7
                prune(0, 45, 100, 0) = -7
                prune(0, 45, 1, 0) = -7
                prune(0, 45, 100, 99) = -7
                """);
        Script.play("13: without lines", """
                town(0, 5) = true
                prune(0, 5, 0, 100) = 0
                """);
        Script.play("13: lines that lead both ways are gone at both ends, and counted once", """
                settle(0, 0, 60, 1) = 60
                fan(0, 30, 1, 0) = 59
                prune(0, 30, 0, 100) = 59
                ofMap(0, 1) = 0
                lines(0, 59) = ""
                """);
        Script.play("13: exceptions go ahead of WRONG, that which is named first of all", hub + """
                prune(0, 45, 101, 0) = throws.IllegalArgumentException
                prune(0, 45, 0, -1) = throws.IllegalArgumentException
                prune(0, 44, 9, 8) = throws.IndexOutOfBoundsException
                prune(2, 45, 9, 8) = throws.IndexOutOfBoundsException
                prune(1, 45, 9, 8) = throws.IndexOutOfBoundsException
                prune(0, 44, -1, 101) = throws.IndexOutOfBoundsException
                prune(-1, 45, 101, 0) = throws.IndexOutOfBoundsException
                """);
    }

    private static void turn() {
        Script.play("14: nothing to turn", """
                turn(0) = 0
                open(0, true) = 0
                turn(0) = 0
                settle(0, 1, 2, 1) = 2
                turn(0) = 0
                ofMap(0, 0) = 2
                ofMap(0, 2) = 1
                """);
        Script.play("14: a line and the one back", """
                open(0, true) = 0
                settle(0, 0, 2, 9) = 2
                town(0, 99) = true
                line(0, 0, 99, 1) = -1
                line(0, 99, 0, 2) = -1
                line(0, 99, 9, 3) = -1
                turn(0) = 3
                lines(0, 0) = "99:2"
                lines(0, 99) = "0:1"
                lines(0, 9) = "99:3"
                """);
        Script.play("14: 400 lines, and round again", Script.FULL_DIRECTED + """
                lines(1, 0) = "1:1 2:2 3:3 4:4 5:5 6:6 7:7"
                turn(1) = 400
                lines(1, 0) = "54:6 55:5 56:4 57:3 58:2 59:1"
                turn(1) = 400
                lines(1, 0) = "1:1 2:2 3:3 4:4 5:5 6:6 7:7"
                """);
        Script.play("14: not directed: 0, and nothing is changed", Script.FULL + """
                turn(0) = 0
                ofMap(0, 1) = 400
                ofMap(0, 2) = 0
                lines(0, 0) = "1:1 2:2 3:3 4:4 5:5 6:6 7:7 54:6 55:5 56:4 57:3 58:2 59:1"
                """);
        Script.play("14: no map", """
                turn(2) = throws.IndexOutOfBoundsException
                turn(-1) = throws.IndexOutOfBoundsException
                """);
    }

    private static void copy() {
        Script.play("15: as an empty one", Script.FULL + """
                open(1, true) = 0
                copy(0) = 0
                ofMap(0, 0) = 0
                ofMap(0, 2) = 1
                ofMap(1, 2) = 1
                """);
        Script.play("15: an empty one as a full one", Script.FULL_DIRECTED + """
                copy(0) = 400
                ofMap(0, 0) = 60
                ofMap(0, 2) = 1
                ofMap(1, 1) = 400
                common(3) = 1
                """);
        Script.play("15: both are empty", """
                copy(0) = 0
                copy(1) = 0
                common(3) = 1
                """);
        Script.play("15: what it had is gone", """
                settle(0, 0, 60, 1) = 60
                ring(0, 1, 1, 0) = 60
                town(1, 99) = true
                copy(0) = 0
                ofMap(0, 0) = 1
                ofMap(0, 3) = 99
                lines(0, 99) = ""
                """);
        Script.play("15: no map", """
                town(0, 1) = true
                copy(2) = throws.IndexOutOfBoundsException
                copy(-1) = throws.IndexOutOfBoundsException
                """);
    }

    private static void join() {
        Script.play("16: towns come as long as there are fewer than 60, the smallest first", """
                settle(0, 0, 59, 1) = 59
                settle(1, 70, 3, 1) = 3
                line(1, 70, 71, 4) = -1
                line(1, 71, 72, 4) = -1
                join(0) = 0
                ofMap(0, 0) = 60
                ofMap(0, 4) = 70
                ofMap(0, 1) = 0
                """);
        Script.play("16: no town comes where there are 60", """
                settle(0, 0, 60, 1) = 60
                settle(1, 58, 3, 1) = 3
                line(1, 58, 59, 4) = -1
                line(1, 59, 60, 5) = -1
                join(0) = 1
                ofMap(0, 4) = 59
                lines(0, 59) = "58:4"
                """);
        Script.play("16: lines come as long as there are fewer than 400, by rising numbers", Script.FULL + """
                unline(0, 0, 1) = 1
                settle(1, 0, 60, 1) = 60
                line(1, 10, 40, 8) = -1
                line(1, 11, 41, 9) = -1
                join(0) = 1
                length(0, 10, 40) = 8
                length(0, 11, 41) = -1
                ofMap(0, 1) = 400
                join(0) = 0
                ofMap(0, 1) = 400
                """);
        Script.play("16: of a line of both ways one fits", Script.FULL_DIRECTED + """
                settle(0, 0, 60, 1) = 60
                line(0, 40, 10, 8) = -1
                unline(1, 0, 1) = 1
                join(1) = 1
                length(1, 10, 40) = 8
                length(1, 40, 10) = -1
                """);
        Script.play("16: both of them fit", Script.FULL_DIRECTED + """
                settle(0, 0, 60, 1) = 60
                line(0, 40, 10, 8) = -1
                unline(1, 0, 1) = 1
                unline(1, 1, 2) = 1
                join(1) = 2
                length(1, 40, 10) = 8
                ofMap(1, 1) = 400
                """);
        Script.play("16: a line that is there stays as it is, in both manners of maps", """
                settle(0, 1, 2, 1) = 2
                open(1, true) = 0
                settle(1, 1, 2, 1) = 2
                line(1, 2, 1, 7) = -1
                line(0, 1, 2, 4) = -1
                join(0) = 0
                lines(0, 1) = "2:4"
                join(1) = 1
                lines(1, 1) = "2:4"
                lines(1, 2) = "1:7"
                """);
    }

    private static void joinBounds() {
        Script.play("16: the other is empty, and it is empty", Script.FULL_DIRECTED + """
                join(1) = 0
                ofMap(1, 1) = 400
                ofMap(0, 2) = 0
                join(0) = 400
                ofMap(0, 0) = 60
                ofMap(0, 2) = 0
                common(3) = 0
                """);
        Script.play("16: both are empty", """
                join(0) = 0
                join(1) = 0
                digest()
                ofMap(0, 0) = 0
                """);
        Script.play("16: of a directed line and the one back, the first holds", """
                open(1, true) = 0
                settle(1, 1, 2, 1) = 2
                line(1, 1, 2, 5) = -1
                line(1, 2, 1, 6) = -1
                join(0) = 1
                length(0, 2, 1) = 5
                """);
        Script.play("16: no map", Script.FULL + """
                join(2) = throws.IndexOutOfBoundsException
                join(-1) = throws.IndexOutOfBoundsException
                """);
    }
}
