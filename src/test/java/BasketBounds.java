/** The boundary cases of promises 24 to 29, 41 and 42, and of section 6. */
public final class BasketBounds {
    /** Town 0 with lines to 1, 2, 3 of the lengths 7, 5, 6. */
    private static final String STAR = """
            open(0, true) = 0
            settle(0, 0, 4, 1) = 4
            line(0, 0, 1, 7) = -1
            line(0, 0, 2, 5) = -1
            line(0, 0, 3, 6) = -1
            """;

    public static void main(String[] args) {
        basket();
        bid();
        bidRefused();
        bidTake();
        bidDrop();
        build();
        buildFits();
        knock();
        bidLook();
        bids();
        Check.end();
    }

    private static void basket() {
        Script.play("24: room is -9 to 99, WRONG if it is less than 1", STAR + """
                bid(0, 0, 1) = 0
                basket(-10) = throws.IllegalArgumentException
                basket(-9) = -7
                basket(-1) = -7
                basket(0) = -7
                basket(100) = throws.IllegalArgumentException
                bids() = "0:7"
                basket(1) = 1
                bid(0, 0, 1) = 1
                basket(99) = 1
                bids() = ""
                """);
        Script.play("24: how many are gone: none, one, 60", STAR + """
                basket(1) = 0
                bid(0, 0, 1) = 0
                basket(1) = 1
                60 times bid(0, 0, 1)
                basket(1) = 60
                basket(1) = 0
                bidLook(0) = -9
                """);
        Script.play("24: by the room nothing else is changed, so 60 come into a room of 1", STAR + """
                basket(1) = 0
                60 times bid(0, 0, 1)
                bid(0, 0, 1) = throws.IllegalStateException
                basket(99) = 60
                60 times bid(0, 0, 1)
                bid(0, 0, 1) = throws.IllegalStateException
                """);
        Script.play("24: of 60 that are gone nothing is left", STAR + """
                60 times bid(0, 0, 1)
                basket(1) = 60
                line(0, 3, 2, 8) = -1
                bid(0, 3, 2) = 60
                bidLook(0) = 60
                bidLook(1) = 8
                bidLook(2) = 3
                bidLook(3) = 2
                """);
        Script.play("24: no number comes twice", STAR + """
                bid(0, 0, 1) = 0
                bid(0, 0, 1) = 1
                basket(5) = 2
                bid(0, 0, 1) = 2
                bidTake() = 2
                bid(0, 0, 1) = 3
                bidDrop(3) = true
                bid(0, 0, 1) = 4
                build(1) = -3
                bid(0, 0, 1) = 5
                """);
    }

    private static void bid() {
        Script.play("25: from and to are 0 to 99", """
                open(0, true) = 0
                town(0, 0) = true
                town(0, 99) = true
                line(0, 0, 99, 4) = -1
                line(0, 99, 0, 0) = -1
                bid(0, -1, 99) = throws.IllegalArgumentException
                bid(0, 100, 99) = throws.IllegalArgumentException
                bid(0, 0, -1) = throws.IllegalArgumentException
                bid(0, 0, 100) = throws.IllegalArgumentException
                bid(0, 0, 99) = 0
                bid(0, 99, 0) = 1
                bids() = "1:0 0:4"
                """);
        Script.play("25: VOID if no such line leads from the one to the other", STAR + """
                bid(0, 1, 0) = -8
                bid(0, 0, 0) = -8
                bid(0, 1, 2) = -8
                bid(0, 0, 4) = -8
                bid(0, 98, 99) = -8
                bid(1, 0, 1) = -8
                bid(0, 0, 1) = 0
                unline(0, 0, 1) = 7
                bid(0, 0, 1) = -8
                bids() = "0:7"
                """);
        Script.play("25: a line that leads both ways", """
                settle(0, 1, 2, 1) = 2
                line(0, 1, 2, 9) = -1
                bid(0, 2, 1) = 0
                bidLook(2) = 2
                bidLook(3) = 1
                bid(0, 1, 2) = 1
                """);
        Script.play("25: prices of 0 to 1000000000, the length which the line had", """
                settle(0, 1, 2, 1) = 2
                line(0, 1, 2, 1000000000) = -1
                bid(0, 1, 2) = 0
                line(0, 1, 2, 0) = 1000000000
                bid(0, 1, 2) = 1
                bids() = "1:0 0:1000000000"
                open(0, true) = 2
                bids() = "1:0 0:1000000000"
                """);
    }

    private static void bidRefused() {
        Script.play("25: the 60th, not the 61st", STAR + """
                59 times bid(0, 0, 1)
                bid(0, 0, 2) = 59
                bid(0, 0, 2) = throws.IllegalStateException
                bidTake() = 59
                bid(0, 0, 2) = 60
                bid(0, 0, 2) = throws.IllegalStateException
                """);
        Script.play("25: with 59 VOID, with 60 the exception goes ahead", STAR + """
                59 times bid(0, 0, 1)
                bid(0, 1, 0) = -8
                bid(0, 0, 1) = 59
                bid(0, 1, 0) = throws.IllegalStateException
                bid(0, 98, 99) = throws.IllegalStateException
                """);
        Script.play("25: the exception that is named first", STAR + """
                60 times bid(0, 0, 1)
                bid(0, -1, 1) = throws.IllegalArgumentException
                bid(0, 0, 100) = throws.IllegalArgumentException
                bid(2, 0, 100) = throws.IndexOutOfBoundsException
                bid(-1, -1, -1) = throws.IndexOutOfBoundsException
                bid(2, 0, 1) = throws.IndexOutOfBoundsException
                """);
        Script.play("25: none in the basket, exceptions go ahead of VOID", """
                bid(2, 0, 1) = throws.IndexOutOfBoundsException
                bid(0, 100, 1) = throws.IllegalArgumentException
                bid(0, 0, -1) = throws.IllegalArgumentException
                bid(0, 0, 1) = -8
                """);
    }

    private static void bidTake() {
        Script.play("26: none, one", STAR + """
                bidTake() = -9
                bid(0, 0, 1) = 0
                bidTake() = 0
                bidTake() = -9
                bids() = ""
                """);
        Script.play("26: of several with the smallest price the smallest number", STAR + """
                bid(0, 0, 1) = 0
                bid(0, 0, 2) = 1
                bid(0, 0, 3) = 2
                bid(0, 0, 2) = 3
                bidTake() = 1
                bidTake() = 3
                bidTake() = 2
                bidTake() = 0
                bidTake() = -9
                """);
        Script.play("26: each of 60 has its own FROM and TO", STAR + """
                line(0, 3, 2, 6) = -1
                58 times bid(0, 0, 2)
                bid(0, 3, 2) = 58
                bid(0, 0, 1) = 59
                58 times bidTake()
                bidLook(2) = 3
                bidLook(3) = 2
                bidTake() = 58
                bidLook(2) = 0
                bidLook(3) = 1
                bidTake() = 59
                """);
        Script.play("26: all of 60", STAR + """
                60 times bid(0, 0, 1)
                bidTake() = 0
                58 times bidTake()
                bidTake() = 59
                bidTake() = -9
                """);
    }

    private static void bidDrop() {
        Script.play("27: none there, a number that was never given, one that is gone", STAR + """
                bidDrop(0) = false
                bid(0, 0, 1) = 0
                bidDrop(-1) = false
                bidDrop(1) = false
                bidDrop(2147483647) = false
                bidDrop(-2147483648) = false
                bids() = "0:7"
                bidDrop(0) = true
                bidDrop(0) = false
                bids() = ""
                """);
        Script.play("27: the least, the last, one between", STAR + """
                bid(0, 0, 1) = 0
                bid(0, 0, 2) = 1
                bid(0, 0, 3) = 2
                bid(0, 0, 3) = 3
                bidDrop(2) = true
                bids() = "1:5 3:6 0:7"
                bidDrop(0) = true
                bidDrop(1) = true
                bids() = "3:6"
                bidLook(3) = 3
                """);
        Script.play("27: room again in a full basket", STAR + """
                60 times bid(0, 0, 1)
                bidDrop(60) = false
                bidDrop(59) = true
                bid(0, 0, 1) = 60
                bid(0, 0, 1) = throws.IllegalStateException
                """);
    }

    private static void build() {
        Script.play("28: no bid", """
                build(0) = -9
                build(1) = -9
                build(2) = throws.IndexOutOfBoundsException
                build(-1) = throws.IndexOutOfBoundsException
                """);
        Script.play("28: no map, the bid stays", STAR + """
                bid(0, 0, 1) = 0
                build(2) = throws.IndexOutOfBoundsException
                build(-1) = throws.IndexOutOfBoundsException
                bids() = "0:7"
                """);
        Script.play("28: a new line, and one that is there", STAR + """
                settle(1, 0, 2, 1) = 2
                bid(0, 0, 1) = 0
                bid(0, 0, 1) = 1
                line(0, 0, 1, 0) = 7
                build(1) = -1
                lines(1, 1) = "0:7"
                build(0) = 0
                length(0, 0, 1) = 7
                build(0) = -9
                """);
        Script.play("28: FROM is no town there, TO is none, both are none; the bid is gone all the same", STAR + """
                bid(0, 0, 1) = 0
                bid(0, 0, 1) = 1
                bid(0, 0, 1) = 2
                bid(0, 0, 1) = 3
                build(1) = -3
                town(1, 0) = true
                build(1) = -3
                raze(1, 0) = 0
                town(1, 1) = true
                build(1) = -3
                bids() = "3:7"
                ofMap(1, 1) = 0
                town(1, 0) = true
                build(1) = -1
                ofMap(1, 1) = 1
                bids() = ""
                """);
        Script.play("28: the least bid, from FROM to TO", STAR + """
                bid(0, 0, 1) = 0
                bid(0, 0, 2) = 1
                open(1, true) = 0
                settle(1, 0, 3, 1) = 3
                build(1) = -1
                lines(1, 0) = "2:5"
                lines(1, 2) = ""
                bids() = "0:7"
                """);
    }

    private static void buildFits() {
        String ready = """
                settle(1, 0, 31, 1) = 31
                line(1, 0, 30, 9) = -1
                line(1, 0, 1, 8) = -1
                """;
        Script.play("28: with 400 lines a new one does not fit, and the bid is gone", Script.FULL + ready + """
                bid(1, 0, 30) = 0
                bid(1, 0, 30) = 1
                build(0) = -3
                bids() = "1:9"
                ofMap(0, 1) = 400
                unline(0, 5, 6) = 1
                build(0) = -1
                length(0, 30, 0) = 9
                ofMap(0, 1) = 400
                """);
        Script.play("28: with 400 lines one that is there has the price", Script.FULL + ready + """
                bid(1, 0, 1) = 0
                bid(1, 1, 0) = 1
                build(0) = 1
                length(0, 0, 1) = 8
                line(0, 0, 1, 3) = 8
                build(0) = 3
                ofMap(0, 1) = 400
                """);
        Script.play("28: directed, with 400 lines the one back does not fit", Script.FULL_DIRECTED + """
                open(0, true) = 0
                settle(0, 0, 2, 1) = 2
                line(0, 1, 0, 4) = -1
                bid(0, 1, 0) = 0
                build(1) = -3
                length(1, 1, 0) = -1
                length(1, 0, 1) = 1
                """);
    }

    private static void knock() {
        Script.play("29: the first, the second; nothing begins it anew", """
                knock() = 1
                knock() = 2
                open(0, true) = 0
                town(0, 1) = true
                begin(0, 1, true) = 0
                basket(1) = 0
                copy(0) = 0
                knock() = 3
                """);
        Script.play("29: whom no bound stops", """
                510 times knock()
                knock() = 511
                knock() = 512
                """);
    }

    private static void bidLook() {
        Script.play("41: what is 0 to 3", STAR + """
                bid(0, 0, 1) = 0
                bid(0, 0, 2) = 1
                bidLook(-1) = throws.IllegalArgumentException
                bidLook(0) = 1
                bidLook(1) = 5
                bidLook(2) = 0
                bidLook(3) = 2
                bidLook(4) = throws.IllegalArgumentException
                bids() = "1:5 0:7"
                """);
        Script.play("41: none, and the exception goes ahead", """
                bidLook(0) = -9
                bidLook(1) = -9
                bidLook(2) = -9
                bidLook(3) = -9
                bidLook(-1) = throws.IllegalArgumentException
                bidLook(4) = throws.IllegalArgumentException
                """);
    }

    private static void bids() {
        Script.play("42: none, one, two of a like price", STAR + """
                bids() = ""
                bid(0, 0, 1) = 0
                bids() = "0:7"
                bid(0, 0, 1) = 1
                bids() = "0:7 1:7"
                bid(0, 0, 3) = 2
                bids() = "2:6 0:7 1:7"
                """);
        StringBuilder all = new StringBuilder("0:7");
        for (int number = 1; number < 60; number++) {
            all.append(" ").append(number).append(":7");
        }
        Script.play("42: all of 60", STAR + "60 times bid(0, 0, 1)\nbids() = \"" + all + "\"\n");
    }
}
