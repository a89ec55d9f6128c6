/** The boundary cases of promises 43 to 48, and of section 2. */
public final class WayBounds {
    public static void main(String[] args) {
        oneTown();
        noWay();
        hops();
        near();
        zeros();
        settled();
        into();
        longest();
        refused();
        Check.end();
    }

    private static void oneTown() {
        Script.play("2: a way of one town, of no lines and sum 0", """
                town(0, 0) = true
                town(0, 99) = true
                hops(0, 99, 99) = 0
                hopWay(0, 99, 99) = "99"
                near(0, 99, 99) = 0
                nearWay(0, 99, 99) = "99"
                settled(0, 99) = "99"
                into(0, 99, 99) = -1
                hopWay(0, 0, 0) = "0"
                nearWay(0, 0, 0) = "0"
                settled(0, 0) = "0"
                """);
        Script.play("2: to itself, though lines lead round at no length", """
                settle(0, 0, 3, 1) = 3
                ring(0, 1, 0, 0) = 3
                hops(0, 1, 1) = 0
                hopWay(0, 1, 1) = "1"
                near(0, 1, 1) = 0
                nearWay(0, 1, 1) = "1"
                into(0, 1, 1) = -1
                """);
    }

    private static void noWay() {
        Script.play("43 to 48: no way, as lines lead the other way", """
                open(0, true) = 0
                settle(0, 0, 2, 1) = 2
                line(0, 1, 0, 5) = -1
                hops(0, 0, 1) = -1
                hopWay(0, 0, 1) = ""
                near(0, 0, 1) = -1
                nearWay(0, 0, 1) = ""
                into(0, 0, 1) = -1
                settled(0, 0) = "0"
                hops(0, 1, 0) = 1
                near(0, 1, 0) = 5
                """);
        Script.play("43 to 48: no way, as there are two parts", """
                settle(0, 1, 4, 1) = 4
                line(0, 1, 2, 0) = -1
                line(0, 3, 4, 0) = -1
                hops(0, 1, 3) = -1
                hopWay(0, 2, 4) = ""
                near(0, 4, 1) = -1
                nearWay(0, 3, 2) = ""
                into(0, 1, 4) = -1
                settled(0, 3) = "3-4"
                """);
        Script.play("43 to 48: none, though the towns beside it lead to 0 and to 99", """
                open(0, true) = 0
                settle(0, 49, 3, 1) = 3
                town(0, 0) = true
                town(0, 99) = true
                line(0, 49, 99, 1) = -1
                line(0, 51, 0, 1) = -1
                hops(0, 50, 99) = -1
                hops(0, 50, 0) = -1
                near(0, 50, 99) = -1
                near(0, 50, 0) = -1
                settled(0, 50) = "50"
                flow(0, 50, 99) = 0
                cut(0, 50, 0, false) = "50"
                begin(0, 50, false) = 0
                step() = 50
                row(true) = ""
                ofTown(0, 50, 0) = 0
                ofTown(0, 50, 4) = -1
                ofTown(0, 50, 5) = 50
                """);
        Script.play("43 to 48: none any more, as a town between is lost", """
                settle(0, 1, 3, 1) = 3
                line(0, 1, 2, 1) = -1
                line(0, 2, 3, 1) = -1
                hops(0, 1, 3) = 2
                near(0, 1, 3) = 2
                raze(0, 2) = 2
                hops(0, 1, 3) = -1
                near(0, 1, 3) = -1
                """);
    }

    private static void hops() {
        Script.play("43, 44: one line, though it is the longest", """
                settle(0, 0, 3, 1) = 3
                line(0, 0, 1, 0) = -1
                line(0, 1, 2, 0) = -1
                hops(0, 0, 2) = 2
                hopWay(0, 0, 2) = "0-1-2"
                line(0, 0, 2, 1000000000) = -1
                hops(0, 0, 2) = 1
                hopWay(0, 0, 2) = "0-2"
                """);
        Script.play("44: the first is that with the smaller number at the first place at which they differ", """
                settle(0, 0, 6, 1) = 6
                line(0, 0, 1, 1) = -1
                line(0, 0, 2, 1) = -1
                line(0, 1, 4, 1) = -1
                line(0, 2, 3, 1) = -1
                line(0, 4, 5, 1) = -1
                line(0, 3, 5, 1) = -1
                hopWay(0, 0, 5) = "0-1-4-5"
                hopWay(0, 5, 0) = "5-3-2-0"
                """);
    }

    private static void near() {
        Script.play("45, 46: of like sums the fewest lines", """
                settle(0, 0, 3, 1) = 3
                line(0, 0, 1, 3) = -1
                line(0, 1, 2, 4) = -1
                line(0, 0, 2, 7) = -1
                near(0, 0, 2) = 7
                nearWay(0, 0, 2) = "0-2"
                line(0, 0, 2, 8) = 7
                near(0, 0, 2) = 7
                nearWay(0, 0, 2) = "0-1-2"
                line(0, 0, 2, 6) = 8
                near(0, 0, 2) = 6
                nearWay(0, 0, 2) = "0-2"
                """);
        Script.play("46: of like sums and as many lines the first", """
                settle(0, 0, 6, 1) = 6
                line(0, 0, 1, 9) = -1
                line(0, 0, 2, 1) = -1
                line(0, 1, 4, 1) = -1
                line(0, 2, 3, 9) = -1
                line(0, 4, 5, 1) = -1
                line(0, 3, 5, 1) = -1
                nearWay(0, 0, 5) = "0-1-4-5"
                nearWay(0, 5, 0) = "5-3-2-0"
                line(0, 0, 1, 10) = 9
                nearWay(0, 0, 5) = "0-2-3-5"
                """);
    }

    private static void zeros() {
        Script.play("2: lines of length 0", """
                settle(0, 0, 60, 1) = 60
                ring(0, 1, 0, 0) = 60
                near(0, 0, 30) = 0
                hops(0, 0, 30) = 30
                near(0, 0, 59) = 0
                nearWay(0, 0, 58) = "0-59-58"
                nearWay(0, 0, 2) = "0-1-2"
                into(0, 0, 30) = 29
                into(0, 30, 0) = 1
                into(0, 0, 1) = 0
                """);
        Script.play("46, 48: 400 lines of length 0", Script.FULL.replaceAll(", \\d, 0\\)", ", 0, 0)") + """
                sums(0, 0) = 0
                nearWay(0, 59, 58) = "59-58"
                nearWay(0, 0, 59) = "0-59"
                into(0, 59, 58) = 0
                """);
        Script.play("46: of ways of sum 0 that with the fewest lines", """
                settle(0, 0, 4, 1) = 4
                line(0, 0, 1, 0) = -1
                line(0, 1, 2, 0) = -1
                line(0, 2, 3, 0) = -1
                line(0, 0, 3, 1) = -1
                nearWay(0, 0, 3) = "0-1-2-3"
                line(0, 0, 3, 0) = 1
                nearWay(0, 0, 3) = "0-3"
                """);
    }

    private static void settled() {
        Script.play("47: of like sums the smallest town", """
                settle(0, 0, 4, 1) = 4
                line(0, 3, 2, 5) = -1
                line(0, 3, 1, 5) = -1
                line(0, 3, 0, 6) = -1
                settled(0, 3) = "3-1-2-0"
                line(0, 1, 0, 0) = -1
                settled(0, 3) = "3-1-0-2"
                """);
        Script.play("47: a town that comes in with 0 goes ahead of those with more", """
                settle(0, 0, 4, 1) = 4
                line(0, 0, 1, 1) = -1
                line(0, 0, 3, 0) = -1
                line(0, 3, 2, 0) = -1
                settled(0, 0) = "0-3-2-1"
                """);
        Script.play("47: all of 60", """
                settle(0, 0, 60, 1) = 60
                fan(0, 59, 1000000000, 0) = 59
                settled(0, 59) = "59-0-1-2-3-4-5-6-7-8-9-10-11-12-13-14-15-16-17-18-19-20-21-22-23-24-25-26-27-28\
                -29-30-31-32-33-34-35-36-37-38-39-40-41-42-43-44-45-46-47-48-49-50-51-52-53-54-55-56-57-58"
                """);
    }

    private static void into() {
        Script.play("48: the smallest town from which it comes out", """
                settle(0, 0, 4, 1) = 4
                line(0, 3, 2, 1) = -1
                line(0, 3, 1, 2) = -1
                line(0, 2, 0, 2) = -1
                line(0, 1, 0, 1) = -1
                into(0, 3, 0) = 1
                line(0, 1, 0, 2) = 1
                into(0, 3, 0) = 2
                line(0, 3, 0, 3) = -1
                into(0, 3, 0) = 2
                line(0, 3, 0, 2) = 3
                into(0, 3, 0) = 3
                """);
        Script.play("48: a town that is reached behind it, at a length of 0, counts too", """
                open(0, true) = 0
                settle(0, 1, 3, 1) = 3
                line(0, 3, 2, 5) = -1
                line(0, 2, 1, 0) = -1
                into(0, 3, 2) = 3
                line(0, 1, 2, 1) = -1
                into(0, 3, 2) = 3
                line(0, 1, 2, 0) = 1
                into(0, 3, 2) = 1
                """);
        Script.play("48: not a town to which there is no way", """
                open(0, true) = 0
                settle(0, 1, 3, 1) = 3
                line(0, 1, 2, 0) = -1
                line(0, 3, 2, 0) = -1
                into(0, 3, 2) = 3
                into(0, 3, 1) = -1
                """);
    }

    private static void longest() {
        Script.play("2: the longest way, and its sum, which no int holds", """
                settle(0, 40, 60, 1) = 60
                lattice(0, 1, 1000000000, 0) = 59
                hops(0, 40, 99) = 59
                near(0, 40, 99) = 59000000000
                near(0, 40, 42) = 2000000000
                near(0, 40, 43) = 3000000000
                nearWay(0, 42, 40) = "42-41-40"
                into(0, 40, 99) = 98
                line(0, 40, 99, 1000000000) = -1
                near(0, 40, 99) = 1000000000
                near(0, 40, 70) = 30000000000
                nearWay(0, 40, 98) = "40-99-98"
                """);
    }

    private static void refused() {
        String[] calls = {"hops", "hopWay", "near", "nearWay", "into"};
        for (String call : calls) {
            Script.playWithoutPlaces("43 to 48: no map, no town from or to of it", call);
        }
        Script.play("47: no map, no town of it", Script.TWO_TOWNS + """
                settled(2, 1) = throws.IndexOutOfBoundsException
                settled(-1, 1) = throws.IndexOutOfBoundsException
                settled(1, 1) = throws.IndexOutOfBoundsException
                settled(0, 0) = throws.IndexOutOfBoundsException
                settled(0, 3) = throws.IndexOutOfBoundsException
                settled(0, 100) = throws.IndexOutOfBoundsException
                """);
    }
}
