/** Promises 24 to 29, 41 and 42: the basket, and who knocked. */
public final class BasketTests {
    public static void main(String[] args) {
        basket();
        bid();
        bidTake();
        bidDrop();
        build();
        knock();
        bidLook();
        bids();
        Check.end();
    }

    /** Town 0 with lines of these lengths to 1, 2, ... */
    private static Mapgraph star(int... lengths) {
        Mapgraph x = new Mapgraph();
        x.open(0, true);
        x.settle(0, 0, lengths.length + 1, 1);
        for (int i = 0; i < lengths.length; i++) {
            x.line(0, 0, i + 1, lengths[i]);
        }
        return x;
    }

    private static void basket() {
        Mapgraph x = star(5, 4, 3);
        Check.due("empty an empty one", x.basket(1), 0);
        x.bid(0, 0, 1);
        x.bid(0, 0, 2);
        Check.due("room 0", x.basket(0), -7);
        Check.due("room -9", x.basket(-9), -7);
        Check.due("nothing is gone", x.bids(), "1:4 0:5");
        Check.due("room 1", x.basket(1), 2);
        Check.due("all gone", x.bids(), "");
        Check.due("numbers go on", x.bid(0, 0, 3), 2);
        Check.due("the room bounds nothing", x.bid(0, 0, 3), 3);
        Check.due("room 99", x.basket(99), 2);
        x.bid(0, 0, 1);
        x.bid(0, 0, 2);
        Check.due("nothing of the old ones is left", x.bids(), "5:4 4:5");
        Check.due("nor of their ends", x.bidLook(2) * 100 + x.bidLook(3), 2);
        x.bidTake();
        Check.due("nor of their ends", x.bidLook(2) * 100 + x.bidLook(3), 1);
        x.line(0, 3, 1, 0);
        x.basket(1);
        x.bid(0, 3, 1);
        Check.due("nor of their beginnings", x.bidLook(2), 3);
        x.basket(1);
        x.bid(0, 0, 1);
        Check.due("nor of their beginnings", x.bidLook(2), 0);
        x.bid(0, 3, 1);
        x.bidTake();
        Check.due("nor of their beginnings", x.bidLook(2), 0);
        Check.noArgument(x, "room -10", () -> x.basket(-10));
        Check.noArgument(x, "room 100", () -> x.basket(100));
    }

    private static void bid() {
        Mapgraph x = star(5, 0);
        Check.due("bid", x.bid(0, 0, 1), 0);
        Check.due("for a line of length 0", x.bid(0, 0, 2), 1);
        Check.due("no line back", x.bid(0, 1, 0), -8);
        Check.due("from is to", x.bid(0, 0, 0), -8);
        Check.due("no such towns", x.bid(0, 98, 99), -8);
        Check.due("no line in the other map", x.bid(1, 0, 1), -8);
        Check.due("no number was used up", x.bid(0, 0, 1), 2);
        x.line(0, 0, 1, 9);
        Check.due("the price is the length which it had", x.bids(), "1:0 0:5 2:5");
        Check.noIndex(x, "no such map", () -> x.bid(2, -1, 0));
        Check.noArgument(x, "from -1", () -> x.bid(0, -1, 0));
        Check.noArgument(x, "from 100", () -> x.bid(0, 100, 0));
        Check.noArgument(x, "to -1", () -> x.bid(0, 0, -1));
        Check.noArgument(x, "to 100", () -> x.bid(0, 0, 100));
        for (int k = 3; k < 60; k++) {
            Check.due("bid", x.bid(0, 0, 2), k);
        }
        Check.noState(x, "a 61st", () -> x.bid(0, 0, 2));
        Check.noState(x, "the state goes ahead of VOID", () -> x.bid(0, 1, 0));
        Check.noArgument(x, "the argument goes ahead of the state", () -> x.bid(0, 0, 100));
        x.bidTake();
        Check.due("room again", x.bid(0, 0, 2), 60);
    }

    private static void bidTake() {
        Mapgraph x = star(7, 5, 7, 1000000000, 5);
        Check.due("nothing to take", x.bidTake(), -9);
        for (int to = 1; to <= 5; to++) {
            x.bid(0, 0, to);
        }
        int[] due = {1, 4, 0, 2, 3, -9};
        for (int number : due) {
            Check.due("the least", x.bidTake(), number);
        }
    }

    private static void bidDrop() {
        Mapgraph x = star(7, 5, 6);
        Check.due("none there", x.bidDrop(0), false);
        for (int to = 1; to <= 3; to++) {
            x.bid(0, 0, to);
        }
        Check.due("drop", x.bidDrop(2), true);
        Check.due("again", x.bidDrop(2), false);
        Check.due("any number", x.bidDrop(-1), false);
        Check.due("any number", x.bidDrop(Integer.MIN_VALUE), false);
        Check.due("any number", x.bidDrop(Integer.MAX_VALUE), false);
        Check.due("what is left", x.bids(), "1:5 0:7");
        Check.due("drop the least", x.bidDrop(1), true);
        Check.due("from", x.bidLook(2), 0);
        Check.due("to", x.bidLook(3), 1);
    }

    private static void build() {
        Mapgraph x = star(7, 5, 6, 9);
        Check.due("no bid", x.build(0), -9);
        for (int to = 1; to <= 4; to++) {
            x.bid(0, 0, to);
        }
        x.settle(1, 0, 2, 1);
        Check.due("no such town there", x.build(1), -3);
        Check.due("the bid is gone all the same", x.bids(), "2:6 0:7 3:9");
        x.stretch(0, 0, 100);
        Check.due("the price becomes the length", x.build(0), 106);
        Check.due("lines", x.lines(0, 0), "1:107 2:105 3:6 4:109");
        Check.due("a new line", x.build(1), -1);
        Check.due("lines", x.lines(1, 1), "0:7");
        x.raze(0, 0);
        Check.due("FROM is no town", x.build(0), -3);
        Check.due("no bid is left", x.build(0), -9);
        Check.noIndex(x, "no such map", () -> x.build(2));
        x.line(1, 0, 1, 3);
        x.bid(1, 1, 0);
        Check.noIndex(x, "the bid stays", () -> x.build(-1));
        Check.due("bids", x.bids(), "4:3");
        x.bid(1, 0, 1);
        x.open(0, false);
        x.settle(0, 0, 60, 1);
        for (int leap = 2; leap <= 8; leap++) {
            x.ring(0, leap, 1, 0);
        }
        Check.due("it does not fit", x.build(0), -3);
        Check.due("the bid is gone all the same", x.bids(), "5:3");
        x.raze(0, 59);
        Check.due("now it fits", x.build(0), -1);
    }

    private static void knock() {
        Mapgraph x = new Mapgraph();
        Check.due("knock", x.knock(), 1);
        Check.due("knock", x.knock(), 2);
        x.open(0, true);
        x.basket(5);
        Check.due("knock", x.knock(), 3);
        Check.due("each desk has its own", new Mapgraph().knock(), 1);
    }

    private static void bidLook() {
        Mapgraph x = star(7, 5);
        for (int what = 0; what <= 3; what++) {
            Check.due("nothing to look at", x.bidLook(what), -9);
        }
        x.bid(0, 0, 1);
        x.bid(0, 0, 2);
        int[] due = {1, 5, 0, 2};
        for (int what = 0; what <= 3; what++) {
            Check.due("bidLook " + what, x.bidLook(what), due[what]);
        }
        Check.due("it stays", x.bids(), "1:5 0:7");
        Check.noArgument(x, "what -1", () -> x.bidLook(-1));
        Check.noArgument(x, "what 4", () -> x.bidLook(4));
        x.basket(1);
        Check.noArgument(x, "the argument goes ahead of EMPTY", () -> x.bidLook(4));
    }

    private static void bids() {
        Mapgraph x = star(1000000000, 0, 7, 0);
        Check.due("none", x.bids(), "");
        for (int to = 1; to <= 4; to++) {
            x.bid(0, 0, to);
        }
        Check.due("by rising prices, then numbers", x.bids(), "1:0 3:0 2:7 0:1000000000");
        x.open(0, false);
        Check.due("what is done to a map changes no bid", x.bids(), "1:0 3:0 2:7 0:1000000000");
    }
}
