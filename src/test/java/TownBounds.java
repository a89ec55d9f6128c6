/** The boundary cases of promises 1 to 6, and of the sentences on TOWNS in section 1. */
public final class TownBounds {
    public static void main(String[] args) {
        newObject();
        open();
        town();
        settle();
        raze();
        keep();
        Check.end();
    }

    private static void newObject() {
        Script.play("1: two empty maps, not directed", """
                ofMap(0, 0) = 0
                ofMap(1, 0) = 0
                ofMap(0, 1) = 0
                ofMap(1, 1) = 0
                ofMap(0, 2) = 0
                ofMap(1, 2) = 0
                ofMap(0, 3) = -9
                ofMap(1, 3) = -9
                ofMap(0, 4) = -9
                ofMap(1, 4) = -9
                open(0, false) = 0
                open(1, false) = 0
                """);
        Script.play("1: a line of a new map leads both ways", """
                settle(0, 1, 2, 1) = 2
                settle(1, 1, 2, 1) = 2
                line(0, 1, 2, 5) = -1
                line(1, 2, 1, 6) = -1
                length(0, 2, 1) = 5
                length(1, 1, 2) = 6
                """);
        Script.play("1: a walk that has visited none", """
                ofWalk(2) = 0
                ofWalk(4) = -1
                ofWalk(5) = 0
                visited() = ""
                """);
        Script.play("1: the walk is in map 0 at first", """
                ofWalk(0) = 0
                town(1, 5) = true
                rowPut(5, true) = -8
                town(0, 5) = true
                rowPut(5, true) = 1
                """);
        Script.play("1: the walk is by breadth at first", """
                ofWalk(1) = 0
                settle(0, 1, 2, 1) = 2
                rowPut(1, false) = 1
                rowPut(2, false) = 2
                step() = 1
                """);
        Script.play("1: an empty row", """
                ofWalk(3) = 0
                row(true) = ""
                row(false) = ""
                rowLook(true) = -9
                rowLook(false) = -9
                rowTake(true) = -9
                rowTake(false) = -9
                rowDrop(0) = false
                step() = -9
                walk(60) = 0
                """);
        Script.play("1: an empty basket", """
                bids() = ""
                bidLook(0) = -9
                bidTake() = -9
                bidDrop(0) = false
                build(0) = -9
                build(1) = -9
                basket(1) = 0
                """);
        Script.play("1: none has knocked", "knock() = 1");
    }

    private static void open() {
        Script.play("2: how many towns it had: none, one, 60", """
                open(0, true) = 0
                town(0, 99) = true
                open(0, true) = 1
                settle(0, 0, 60, 1) = 60
                open(0, true) = 60
                open(0, true) = 0
                """);
        Script.play("2: neither towns nor lines", Script.FULL + """
                open(0, false) = 60
                ofMap(0, 0) = 0
                ofMap(0, 1) = 0
                ofMap(0, 3) = -9
                sums(0, 0) = 0
                treeLines(0) = ""
                settle(0, 0, 60, 1) = 60
                ofMap(0, 1) = 0
                lines(0, 0) = ""
                ring(0, 1, 1, 0) = 60
                """);
        Script.play("2: directed from now on, or not", """
                open(0, true) = 0
                ofMap(0, 2) = 1
                ofMap(1, 2) = 0
                settle(0, 1, 2, 1) = 2
                line(0, 1, 2, 3) = -1
                length(0, 2, 1) = -1
                open(0, false) = 2
                ofMap(0, 2) = 0
                settle(0, 1, 2, 1) = 2
                line(0, 1, 2, 3) = -1
                length(0, 2, 1) = 3
                """);
        Script.play("2: the maps are 0 and 1", """
                settle(0, 1, 2, 1) = 2
                settle(1, 1, 3, 1) = 3
                open(-1, true) = throws.IndexOutOfBoundsException
                open(2, true) = throws.IndexOutOfBoundsException
                open(0, true) = 2
                open(1, true) = 3
                """);
        Script.play("2: the row, what was visited, and the basket stay", """
                settle(0, 1, 3, 1) = 3
                ring(0, 1, 4, 0) = 3
                begin(0, 1, false) = 0
                step() = 1
                bid(0, 1, 2) = 0
                open(0, true) = 3
                visited() = "1"
                row(true) = "2-3"
                bids() = "0:4"
                ofWalk(5) = 0
                """);
    }

    private static void town() {
        Script.play("3: numbers of 0 to 99", """
                town(0, -1) = throws.IllegalArgumentException
                town(0, 0) = true
                town(0, 99) = true
                town(0, 100) = throws.IllegalArgumentException
                ofMap(0, 0) = 2
                ofMap(0, 3) = 0
                ofMap(0, 4) = 99
                """);
        Script.play("3: the 60th, not the 61st", """
                settle(0, 0, 59, 1) = 59
                town(0, 98) = true
                town(0, 99) = throws.IllegalStateException
                ofMap(0, 0) = 60
                ofMap(0, 4) = 98
                """);
        Script.play("3: one that is there is left as it was", """
                settle(0, 1, 2, 1) = 2
                line(0, 1, 2, 7) = -1
                town(0, 1) = false
                town(0, 2) = false
                lines(0, 1) = "2:7"
                ofMap(0, 0) = 2
                """);
        Script.play("3: one that is there, with 60, throws nothing", """
                settle(0, 0, 60, 1) = 60
                town(0, 0) = false
                town(0, 59) = false
                town(0, 60) = throws.IllegalStateException
                """);
        Script.play("3: room again when one is lost", """
                settle(0, 0, 60, 1) = 60
                raze(0, 30) = 0
                town(0, 99) = true
                town(0, 30) = throws.IllegalStateException
                """);
        Script.play("3: each map has room for 60", """
                settle(0, 0, 60, 1) = 60
                settle(1, 0, 59, 1) = 59
                town(1, 60) = true
                town(1, 61) = throws.IllegalStateException
                """);
        Script.play("3: the exception that is named first", """
                settle(0, 0, 60, 1) = 60
                town(0, 100) = throws.IllegalArgumentException
                town(0, -1) = throws.IllegalArgumentException
                town(2, 100) = throws.IndexOutOfBoundsException
                town(-1, 70) = throws.IndexOutOfBoundsException
                """);
    }

    private static void settle() {
        Script.play("4: first is 0 to 99", """
                settle(0, -1, 1, 1) = throws.IllegalArgumentException
                settle(0, 0, 1, 1) = 1
                settle(0, 99, 1, 1) = 1
                settle(0, 100, 1, 1) = throws.IllegalArgumentException
                ofMap(0, 0) = 2
                """);
        Script.play("4: many is 1 to 60", """
                settle(0, 0, 0, 1) = throws.IllegalArgumentException
                settle(0, 0, 1, 1) = 1
                settle(0, 0, 61, 1) = throws.IllegalArgumentException
                settle(1, 0, 60, 1) = 60
                ofMap(0, 0) = 1
                """);
        Script.play("4: step is 1 to 9", """
                settle(0, 0, 2, 0) = throws.IllegalArgumentException
                settle(0, 0, 2, 1) = 2
                ofMap(0, 4) = 1
                settle(1, 0, 2, 9) = 2
                ofMap(1, 4) = 9
                settle(0, 0, 2, 10) = throws.IllegalArgumentException
                """);
        Script.play("4: 99 is founded, those above are left out", """
                settle(0, 90, 2, 9) = 2
                ofMap(0, 4) = 99
                settle(1, 91, 2, 9) = 1
                ofMap(1, 4) = 91
                open(1, false) = 1
                settle(1, 99, 60, 9) = 1
                open(1, false) = 1
                settle(1, 40, 60, 1) = 60
                ofMap(1, 4) = 99
                open(1, false) = 60
                settle(1, 41, 60, 1) = 59
                """);
        Script.play("4: those that are there are left out, and those behind them come all the same", """
                town(0, 5) = true
                settle(0, 5, 1, 1) = 0
                settle(0, 4, 3, 1) = 2
                ofMap(0, 3) = 4
                ofMap(0, 4) = 6
                """);
        Script.play("4: lines of those that are there stay", """
                settle(0, 1, 2, 1) = 2
                line(0, 1, 2, 7) = -1
                settle(0, 1, 3, 1) = 1
                lines(0, 1) = "2:7"
                """);
        Script.play("4: one place is left, the second that comes is left out", """
                settle(0, 40, 59, 1) = 59
                settle(0, 0, 2, 1) = 1
                ofMap(0, 0) = 60
                ofMap(0, 3) = 0
                length(0, 0, 1) = throws.IndexOutOfBoundsException
                """);
        Script.play("4: none comes where there are 60", """
                settle(0, 0, 60, 1) = 60
                settle(0, 60, 1, 1) = 0
                settle(0, 0, 60, 9) = 0
                ofMap(0, 4) = 59
                """);
        Script.play("4: those that are there take no place", """
                settle(0, 0, 59, 1) = 59
                settle(0, 0, 60, 1) = 1
                ofMap(0, 4) = 59
                """);
        Script.play("4: the exception that is named first", """
                settle(2, -1, 0, 0) = throws.IndexOutOfBoundsException
                settle(-1, 100, 61, 10) = throws.IndexOutOfBoundsException
                """);
    }

    private static void raze() {
        Script.play("5: how many lines were lost: one, all but that, none", """
                settle(0, 0, 60, 1) = 60
                fan(0, 7, 1, 0) = 59
                raze(0, 8) = 1
                raze(0, 7) = 58
                ofMap(0, 1) = 0
                raze(0, 59) = 0
                ofMap(0, 0) = 57
                """);
        Script.play("5: all lines that lead from it or to it", """
                open(1, true) = 0
                settle(1, 1, 3, 1) = 3
                line(1, 1, 2, 1) = -1
                line(1, 2, 1, 2) = -1
                line(1, 3, 1, 3) = -1
                line(1, 3, 2, 4) = -1
                raze(1, 1) = 3
                lines(1, 2) = ""
                lines(1, 3) = "2:4"
                ofMap(1, 1) = 1
                """);
        Script.play("5: of 400 lines", Script.FULL + """
                raze(0, 0) = 13
                raze(0, 39) = 14
                ofMap(0, 1) = 373
                """);
        Script.play("5: the last town of a map", """
                town(0, 50) = true
                raze(0, 50) = 0
                ofMap(0, 0) = 0
                ofMap(0, 3) = -9
                raze(0, 50) = throws.IndexOutOfBoundsException
                """);
        Script.play("5: the smallest and the greatest one", """
                town(0, 0) = true
                town(0, 99) = true
                line(0, 0, 99, 1) = -1
                raze(0, 99) = 1
                raze(0, 0) = 0
                ofMap(0, 0) = 0
                """);
        Script.play("5: no such town: any number that is not one of that map now", """
                settle(0, 10, 3, 1) = 3
                raze(0, 11) = 0
                raze(0, 11) = throws.IndexOutOfBoundsException
                raze(0, 9) = throws.IndexOutOfBoundsException
                raze(0, 13) = throws.IndexOutOfBoundsException
                raze(0, -1) = throws.IndexOutOfBoundsException
                raze(0, 100) = throws.IndexOutOfBoundsException
                raze(1, 10) = throws.IndexOutOfBoundsException
                raze(2, 10) = throws.IndexOutOfBoundsException
                raze(-1, 10) = throws.IndexOutOfBoundsException
                """);
        Script.play("5: founded again, it has none of its lines", """
                settle(0, 1, 2, 1) = 2
                line(0, 1, 2, 7) = -1
                raze(0, 1) = 1
                town(0, 1) = true
                lines(0, 1) = ""
                lines(0, 2) = ""
                """);
    }

    private static void keep() {
        Script.play("6: the other has none: all are lost", Script.FULL + """
                keep(0) = 60
                ofMap(0, 0) = 0
                ofMap(0, 1) = 0
                """);
        Script.play("6: it has none itself", """
                settle(0, 0, 60, 1) = 60
                keep(1) = 0
                ofMap(0, 0) = 60
                ofMap(1, 0) = 0
                """);
        Script.play("6: both have the same", """
                settle(0, 0, 60, 1) = 60
                ring(0, 1, 1, 0) = 60
                copy(1) = 60
                keep(0) = 0
                keep(1) = 0
                ofMap(0, 1) = 60
                """);
        Script.play("6: the other lacks the smallest and the greatest", """
                settle(0, 0, 2, 9) = 2
                town(0, 99) = true
                town(1, 9) = true
                line(0, 0, 9, 1) = -1
                line(0, 9, 99, 1) = -1
                keep(0) = 2
                ofMap(0, 3) = 9
                ofMap(0, 4) = 9
                ofMap(0, 1) = 0
                """);
        Script.play("6: the other has more", """
                settle(0, 5, 2, 1) = 2
                line(0, 5, 6, 8) = -1
                settle(1, 0, 60, 1) = 60
                keep(0) = 0
                lines(0, 5) = "6:8"
                ofMap(1, 0) = 60
                """);
        Script.play("6: the maps are 0 and 1", """
                settle(0, 0, 60, 1) = 60
                keep(2) = throws.IndexOutOfBoundsException
                keep(-1) = throws.IndexOutOfBoundsException
                """);
    }
}
