/** The boundary cases of promises 17 to 23 and 38 to 40, and of section 5. */
public final class WalkBounds {
    public static void main(String[] args) {
        begin();
        stepEnds();
        stepOrder();
        walk();
        rowPut();
        rowPutRefused();
        rowTakeAndLook();
        rowDrop();
        ofWalk();
        visited();
        row();
        longestRow();
        longestRowOfAll();
        Check.end();
    }

    private static void begin() {
        Script.play("17: how many numbers were in the row before: none, one, 100", """
                settle(0, 0, 60, 1) = 60
                begin(0, 0, false) = 0
                begin(0, 59, true) = 1
                99 times rowPut(7, false)
                begin(0, 1, false) = 100
                row(true) = "1"
                ofWalk(3) = 1
                """);
        Script.play("17: none is visited, so each can be visited again", """
                town(0, 5) = true
                begin(0, 5, false) = 0
                step() = 5
                step() = -9
                begin(0, 5, true) = 0
                ofWalk(2) = 0
                ofWalk(4) = -1
                visited() = ""
                step() = 5
                """);
        Script.play("17: in either map, in either manner", """
                town(0, 0) = true
                town(1, 99) = true
                begin(1, 99, true) = 0
                ofWalk(0) = 1
                ofWalk(1) = 1
                begin(0, 0, false) = 1
                ofWalk(0) = 0
                ofWalk(1) = 0
                """);
        Script.play("17: no map, no town of it", """
                settle(0, 10, 3, 1) = 3
                town(1, 50) = true
                begin(0, 11, true) = 0
                raze(0, 12) = 0
                begin(0, 12, false) = throws.IndexOutOfBoundsException
                begin(0, 9, false) = throws.IndexOutOfBoundsException
                begin(0, 50, false) = throws.IndexOutOfBoundsException
                begin(1, 10, false) = throws.IndexOutOfBoundsException
                begin(2, 10, false) = throws.IndexOutOfBoundsException
                begin(-1, 10, false) = throws.IndexOutOfBoundsException
                begin(0, -1, false) = throws.IndexOutOfBoundsException
                begin(0, 100, false) = throws.IndexOutOfBoundsException
                ofWalk(0) = 0
                row(true) = "11"
                """);
    }

    private static void stepEnds() {
        Script.play("18: an empty row", """
                settle(0, 1, 2, 1) = 2
                step() = -9
                begin(0, 1, true) = 0
                step() = 1
                step() = -9
                visited() = "1"
                """);
        Script.play("18: a walk that never began", """
                settle(0, 97, 3, 1) = 3
                line(0, 98, 99, 1) = -1
                line(0, 98, 97, 1) = -1
                rowPut(98, true) = 1
                step() = 98
                row(true) = "97-99"
                walk(2) = 2
                visited() = "98-97-99"
                ofWalk(5) = 3
                """);
        Script.play("18: no such town in the map now, and that is all", """
                settle(0, 1, 3, 1) = 3
                ring(0, 1, 1, 0) = 3
                begin(0, 1, false) = 0
                raze(0, 1) = 2
                step() = -1
                visited() = ""
                row(true) = ""
                step() = -9
                """);
        Script.play("18: a town of the other map alone is none", """
                town(0, 1) = true
                town(1, 2) = true
                begin(0, 1, true) = 0
                open(0, false) = 1
                town(1, 1) = true
                step() = -1
                """);
        Script.play("18: visited already, and that is all", """
                settle(0, 1, 2, 1) = 2
                begin(0, 1, false) = 0
                rowPut(1, false) = 2
                step() = 1
                line(0, 1, 2, 5) = -1
                step() = -2
                row(true) = ""
                visited() = "1"
                """);
        Script.play("18: no such town goes ahead of visited already", """
                town(0, 1) = true
                begin(0, 1, false) = 0
                rowPut(1, false) = 2
                step() = 1
                raze(0, 1) = 0
                step() = -1
                step() = -9
                """);
        Script.play("18: without neighbours, and with visited ones alone", """
                open(0, true) = 0
                settle(0, 1, 2, 1) = 2
                line(0, 1, 2, 5) = -1
                begin(0, 2, false) = 0
                step() = 2
                row(true) = ""
                rowPut(1, true) = 1
                step() = 1
                row(true) = ""
                """);
        Script.play("18: the numbers 0 and 99", """
                town(0, 0) = true
                town(0, 99) = true
                line(0, 0, 99, 1) = -1
                begin(0, 99, false) = 0
                step() = 99
                row(true) = "0"
                step() = 0
                row(true) = ""
                visited() = "99-0"
                """);
    }

    private static void stepOrder() {
        String star = """
                settle(0, 0, 5, 1) = 5
                line(0, 2, 0, 1) = -1
                line(0, 2, 4, 1) = -1
                line(0, 2, 3, 1) = -1
                """;
        Script.play("18: by breadth the first is taken, neighbours come to the end by rising numbers", star + """
                begin(0, 2, false) = 0
                rowPut(1, false) = 2
                step() = 2
                row(true) = "1-0-3-4"
                step() = 1
                step() = 0
                row(true) = "3-4"
                """);
        Script.play("18: by depth the last is taken, neighbours come to the end by falling numbers", star + """
                begin(0, 2, true) = 0
                rowPut(1, true) = 2
                step() = 2
                row(true) = "1-4-3-0"
                step() = 0
                step() = 3
                row(true) = "1-4"
                """);
        Script.play("18: what is done to the map changes neither the row nor what was visited", star + """
                begin(0, 2, false) = 0
                step() = 2
                open(0, true) = 5
                row(true) = "0-3-4"
                visited() = "2"
                ofWalk(1) = 0
                step() = -1
                settle(0, 2, 2, 1) = 2
                line(0, 3, 2, 1) = -1
                step() = 3
                row(true) = "4"
                visited() = "2-3"
                """);
    }

    private static void walk() {
        Script.play("19: many is 1 to 60", """
                settle(0, 0, 60, 1) = 60
                lattice(0, 1, 1, 0) = 59
                begin(0, 0, false) = 0
                walk(0) = throws.IllegalArgumentException
                walk(61) = throws.IllegalArgumentException
                walk(-1) = throws.IllegalArgumentException
                walk(1) = 1
                visited() = "0"
                begin(0, 0, false) = 1
                walk(60) = 60
                ofWalk(2) = 60
                ofWalk(3) = 0
                """);
        Script.play("19: fewer than so many", """
                settle(0, 0, 60, 1) = 60
                fan(0, 0, 1, 0) = 59
                begin(0, 0, false) = 0
                walk(59) = 59
                row(true) = "59"
                walk(1) = 1
                row(true) = ""
                """);
        Script.play("19: an empty row", """
                walk(1) = 0
                walk(60) = 0
                visited() = ""
                walk(0) = throws.IllegalArgumentException
                """);
        Script.play("19: each step counts, whatever it tells", """
                settle(0, 1, 4, 1) = 4
                rowPut(1, false) = 1
                rowPut(2, false) = 2
                rowPut(1, false) = 3
                rowPut(3, false) = 4
                rowPut(4, false) = 5
                raze(0, 2) = 0
                walk(2) = 1
                row(true) = "1-3-4"
                walk(2) = 1
                row(true) = "4"
                walk(2) = 1
                visited() = "1-3-4"
                """);
        Script.play("19: 60 steps of a row of 61", """
                town(0, 9) = true
                61 times rowPut(9, false)
                walk(60) = 1
                ofWalk(3) = 1
                walk(60) = 0
                ofWalk(3) = 0
                """);
    }

    private static void rowPut() {
        Script.play("20: town is 0 to 99", """
                town(0, 0) = true
                town(0, 99) = true
                rowPut(-1, true) = throws.IllegalArgumentException
                rowPut(100, true) = throws.IllegalArgumentException
                rowPut(0, true) = 1
                rowPut(99, true) = 2
                row(true) = "99-0"
                """);
        Script.play("20: VOID if there is no such town", """
                town(0, 5) = true
                town(1, 6) = true
                rowPut(4, true) = -8
                rowPut(6, false) = -8
                rowPut(5, false) = 1
                raze(0, 5) = 0
                rowPut(5, false) = -8
                row(true) = "5"
                """);
        Script.play("20: a town of the map of the walk", """
                town(0, 5) = true
                town(1, 6) = true
                begin(1, 6, true) = 0
                rowPut(5, true) = -8
                rowPut(6, true) = 2
                """);
        Script.play("20: at the first place or at the last one; one that is there, too", """
                settle(0, 1, 3, 1) = 3
                rowPut(1, true) = 1
                rowPut(2, true) = 2
                rowPut(3, false) = 3
                rowPut(1, false) = 4
                rowPut(1, true) = 5
                row(true) = "1-2-1-3-1"
                """);
    }

    private static void rowPutRefused() {
        String nearly = """
                settle(0, 0, 2, 1) = 2
                99 times rowPut(0, false)
                """;
        Script.play("20: the 100th, not the 101st, at the end", nearly + """
                ofWalk(3) = 99
                rowPut(1, false) = 100
                rowPut(1, false) = throws.IllegalStateException
                rowPut(1, true) = throws.IllegalStateException
                rowTake(false) = 1
                rowPut(1, true) = 100
                rowLook(true) = 1
                """);
        Script.play("20: the 100th, not the 101st, at the front", nearly + """
                rowPut(1, true) = 100
                rowPut(1, true) = throws.IllegalStateException
                rowLook(true) = 1
                rowLook(false) = 0
                """);
        Script.play("20: with 99 an unknown town is VOID, with 100 the exception goes ahead", nearly + """
                rowPut(2, false) = -8
                rowPut(1, false) = 100
                rowPut(2, false) = throws.IllegalStateException
                rowPut(-1, false) = throws.IllegalArgumentException
                rowPut(100, false) = throws.IllegalArgumentException
                """);
        Script.play("20: where steps brought more than 100", Script.FULL + """
                begin(0, 0, true) = 0
                walk(8) = 8
                walk(12) = 12
                walk(12) = 12
                walk(12) = 12
                rowPut(0, false) = throws.IllegalStateException
                rowPut(60, false) = throws.IllegalStateException
                rowPut(100, false) = throws.IllegalArgumentException
                """);
    }

    private static void rowTakeAndLook() {
        Script.play("21, 22: none, one, two", """
                settle(0, 0, 2, 1) = 2
                rowTake(true) = -9
                rowTake(false) = -9
                rowLook(true) = -9
                rowLook(false) = -9
                rowPut(0, false) = 1
                rowLook(true) = 0
                rowLook(false) = 0
                rowTake(true) = 0
                rowTake(true) = -9
                rowPut(0, false) = 1
                rowPut(1, false) = 2
                rowLook(true) = 0
                rowLook(false) = 1
                rowTake(false) = 1
                rowTake(false) = 0
                rowTake(false) = -9
                rowLook(false) = -9
                """);
        Script.play("21: of 100", """
                settle(0, 0, 3, 1) = 3
                98 times rowPut(0, false)
                rowPut(1, true) = 99
                rowPut(2, false) = 100
                rowLook(true) = 1
                rowLook(false) = 2
                rowTake(true) = 1
                rowTake(false) = 2
                ofWalk(3) = 98
                """);
        Script.play("21, 22: a town that is lost stays in the row", """
                town(0, 7) = true
                rowPut(7, true) = 1
                open(0, false) = 1
                rowLook(true) = 7
                rowTake(false) = 7
                rowTake(false) = -9
                """);
    }

    private static void rowDrop() {
        Script.play("23: town is 0 to 99", """
                town(0, 0) = true
                town(0, 99) = true
                rowPut(0, true) = 1
                rowPut(99, true) = 2
                rowDrop(-1) = throws.IllegalArgumentException
                rowDrop(100) = throws.IllegalArgumentException
                rowDrop(99) = true
                rowDrop(0) = true
                row(true) = ""
                """);
        Script.play("23: an empty row, and one without it", """
                settle(0, 1, 2, 1) = 2
                rowDrop(1) = false
                rowDrop(-1) = throws.IllegalArgumentException
                rowPut(2, true) = 1
                rowDrop(1) = false
                row(true) = "2"
                """);
        Script.play("23: at the first place only at which it is", """
                settle(0, 1, 3, 1) = 3
                rowPut(1, false) = 1
                rowPut(2, false) = 2
                rowPut(1, false) = 3
                rowPut(3, false) = 4
                rowPut(1, false) = 5
                rowDrop(1) = true
                row(true) = "2-1-3-1"
                rowDrop(1) = true
                row(true) = "2-3-1"
                rowDrop(1) = true
                row(true) = "2-3"
                rowDrop(1) = false
                """);
        Script.play("23: the last of 100, of a town that is lost", """
                settle(0, 1, 2, 1) = 2
                99 times rowPut(1, false)
                rowPut(2, false) = 100
                raze(0, 2) = 0
                rowDrop(2) = true
                rowDrop(2) = false
                ofWalk(3) = 99
                """);
    }

    private static void ofWalk() {
        Script.play("38: what is 0 to 5", """
                town(0, 3) = true
                begin(0, 3, true) = 0
                walk(1) = 1
                ofWalk(-1) = throws.IllegalArgumentException
                ofWalk(0) = 0
                ofWalk(1) = 1
                ofWalk(2) = 1
                ofWalk(3) = 0
                ofWalk(4) = 3
                ofWalk(5) = 1
                ofWalk(6) = throws.IllegalArgumentException
                """);
        Script.play("38: visited last, though it is lost", """
                settle(0, 0, 2, 1) = 2
                line(0, 0, 1, 1) = -1
                begin(0, 1, false) = 0
                ofWalk(4) = -1
                step() = 1
                ofWalk(4) = 1
                step() = 0
                ofWalk(4) = 0
                ofWalk(5) = 2
                raze(0, 0) = 1
                ofWalk(4) = 0
                ofWalk(2) = 2
                ofWalk(5) = 1
                open(0, false) = 1
                ofWalk(5) = 0
                town(1, 1) = true
                ofWalk(5) = 0
                town(0, 0) = true
                ofWalk(5) = 1
                """);
    }

    private static void visited() {
        Script.play("39: none, one, two", """
                settle(0, 0, 2, 1) = 2
                visited() = ""
                begin(0, 1, false) = 0
                visited() = ""
                rowPut(0, false) = 2
                step() = 1
                visited() = "1"
                step() = 0
                visited() = "1-0"
                """);
        Script.play("39: more than 30, all of them", """
                settle(0, 0, 31, 1) = 31
                fan(0, 0, 1, 0) = 30
                begin(0, 0, false) = 0
                walk(31) = 31
                visited() = "0-1-2-3-4-5-6-7-8-9-10-11-12-13-14-15-16-17-18-19-20-21-22-23-24-25-26-27-28-29-30"
                """);
    }

    private static void row() {
        Script.play("40: none, one, two", """
                settle(0, 0, 2, 1) = 2
                row(true) = ""
                row(false) = ""
                rowPut(0, true) = 1
                row(true) = "0"
                row(false) = "0"
                rowPut(1, true) = 2
                row(true) = "1-0"
                row(false) = "0-1"
                """);
        Script.play("40: of 30 all, of 31 the 30 that come first then", """
                settle(0, 1, 3, 1) = 3
                28 times rowPut(2, true)
                rowPut(1, true) = 29
                row(true) = "1-2-2-2-2-2-2-2-2-2-2-2-2-2-2-2-2-2-2-2-2-2-2-2-2-2-2-2-2"
                rowPut(3, false) = 30
                row(true) = "1-2-2-2-2-2-2-2-2-2-2-2-2-2-2-2-2-2-2-2-2-2-2-2-2-2-2-2-2-3"
                row(false) = "3-2-2-2-2-2-2-2-2-2-2-2-2-2-2-2-2-2-2-2-2-2-2-2-2-2-2-2-2-1"
                rowPut(2, false) = 31
                row(true) = "1-2-2-2-2-2-2-2-2-2-2-2-2-2-2-2-2-2-2-2-2-2-2-2-2-2-2-2-2-3"
                row(false) = "2-3-2-2-2-2-2-2-2-2-2-2-2-2-2-2-2-2-2-2-2-2-2-2-2-2-2-2-2-2"
                ofWalk(3) = 31
                """);
    }

    /** The longest row of 512 calls: each town looks at 59 that were not visited, as visited ones make room. */
    private static void longestRow() {
        StringBuilder calls = new StringBuilder("open(0, true) = 0\nsettle(0, 0, 60, 1) = 60\nbegin(0, 0, true) = 0\n");
        int due = 1;
        for (int town = 0; town < 100; town++) {
            int last = Math.min(99, town + 59);
            calls.append("fan(0, ").append(town).append(", 1, 0)\n");
            calls.append("step() = ").append(town).append("\n");
            due += last - town - 1;
            calls.append("ofWalk(3) = ").append(due).append("\n");
            calls.append("raze(0, ").append(town).append(")\n");
            if (town + 60 < 100) {
                calls.append("town(0, ").append(town + 60).append(") = true\n");
            }
        }
        calls.append("ofWalk(3) = 4031\nrowLook(true) = 59\nrowLook(false) = 99\n");
        calls.append("row(false) = \"99-98-99-97-98-99-96-97-98-99-95-96-97-98-99-94-95-96-97-98-99");
        calls.append("-93-94-95-96-97-98-99-92-93\"\n");
        Script.play("section 5: no bound is told for the row, so steps bring all", calls.toString());
    }

    /** 99 numbers are put in front of it, where a walk by depth never comes: no row can be longer. */
    private static void longestRowOfAll() {
        StringBuilder calls = new StringBuilder("open(0, true) = 0\nsettle(0, 0, 60, 1) = 60\nbegin(0, 0, true) = 0\n");
        calls.append("99 times rowPut(5, true)\n");
        for (int town = 0; town < 99; town++) {
            calls.append("fan(0, ").append(town).append(", 1, 0)\n");
            calls.append("step() = ").append(town).append("\n");
            calls.append("raze(0, ").append(town).append(")\n");
            if (town + 60 < 100) {
                calls.append("town(0, ").append(town + 60).append(") = true\n");
            }
        }
        calls.append("ofWalk(3) = 4131\nstep() = 99\nofWalk(3) = 4130\nofWalk(2) = 100\nrowLook(true) = 5\n");
        calls.append("40 times rowTake(true)\nofWalk(3) = 4090\n");
        Script.play("section 5: the longest row that can be", calls.toString());
    }
}
