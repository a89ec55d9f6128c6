/** The face of the class, as the document tells it, and what arguments its methods take. */
public final class Face {
    /** The public face, line by line, but for the names of the parameters. */
    public static final String[] METHODS = """
            int open(int, boolean) throws IndexOutOfBoundsException
            boolean town(int, int) throws IndexOutOfBoundsException, IllegalArgumentException, IllegalStateException
            int settle(int, int, int, int) throws IndexOutOfBoundsException, IllegalArgumentException
            int raze(int, int) throws IndexOutOfBoundsException
            int keep(int) throws IndexOutOfBoundsException
            int line(int, int, int, int) throws IndexOutOfBoundsException, IllegalArgumentException, IllegalStateException
            int unline(int, int, int) throws IndexOutOfBoundsException
            int ring(int, int, int, int) throws IndexOutOfBoundsException, IllegalArgumentException, IllegalStateException
            int fan(int, int, int, int) throws IndexOutOfBoundsException, IllegalArgumentException
            int lattice(int, int, int, int) throws IndexOutOfBoundsException, IllegalArgumentException
            int stretch(int, int, int) throws IndexOutOfBoundsException, IllegalArgumentException
            int prune(int, int, int, int) throws IndexOutOfBoundsException, IllegalArgumentException
            int turn(int) throws IndexOutOfBoundsException
            int copy(int) throws IndexOutOfBoundsException
            int join(int) throws IndexOutOfBoundsException
            int begin(int, int, boolean) throws IndexOutOfBoundsException
            int step()
            int walk(int) throws IllegalArgumentException
            int rowPut(int, boolean) throws IllegalArgumentException, IllegalStateException
            int rowTake(boolean)
            int rowLook(boolean)
            boolean rowDrop(int) throws IllegalArgumentException
            int basket(int) throws IllegalArgumentException
            int bid(int, int, int) throws IndexOutOfBoundsException, IllegalArgumentException, IllegalStateException
            int bidTake()
            boolean bidDrop(int)
            int build(int) throws IndexOutOfBoundsException
            int knock()
            int ofMap(int, int) throws IndexOutOfBoundsException, IllegalArgumentException
            int ofTown(int, int, int) throws IndexOutOfBoundsException, IllegalArgumentException
            long sums(int, int) throws IndexOutOfBoundsException, IllegalArgumentException
            int length(int, int, int) throws IndexOutOfBoundsException
            int beside(int, int, int, int) throws IndexOutOfBoundsException, IllegalArgumentException
            int window(int, int, int, int, int) throws IndexOutOfBoundsException, IllegalArgumentException
            String lines(int, int) throws IndexOutOfBoundsException
            int common(int) throws IllegalArgumentException
            int ofWalk(int) throws IllegalArgumentException
            String visited()
            String row(boolean)
            int bidLook(int) throws IllegalArgumentException
            String bids()
            int hops(int, int, int) throws IndexOutOfBoundsException
            String hopWay(int, int, int) throws IndexOutOfBoundsException
            long near(int, int, int) throws IndexOutOfBoundsException
            String nearWay(int, int, int) throws IndexOutOfBoundsException
            String settled(int, int) throws IndexOutOfBoundsException
            int into(int, int, int) throws IndexOutOfBoundsException
            String treeLines(int) throws IndexOutOfBoundsException
            String treeWay(int, int, int) throws IndexOutOfBoundsException
            int treeMost(int, int, int) throws IndexOutOfBoundsException
            String keys(int, boolean) throws IndexOutOfBoundsException
            String odd(int) throws IndexOutOfBoundsException
            long flow(int, int, int) throws IndexOutOfBoundsException, IllegalArgumentException
            String cut(int, int, int, boolean) throws IndexOutOfBoundsException, IllegalArgumentException
            boolean isSound()
            long digest()
            """.split("\n");

    /** A method with its arguments: a map, a town of it, a number with its bounds, or one that has none ("any"). */
    public static final String[] ACTS = {
        "open map any", "town map 0..99", "settle map 0..99 1..60 1..9", "raze map town", "keep map",
        "line map town town 0..1000000000", "unline map town town", "ring map 1..59 0..1000000000 0..1000000000",
        "fan map town 0..1000000000 0..1000000000", "lattice map 1..20 0..1000000000 0..1000000000",
        "stretch map town -1000000000..1000000000", "prune map town 0..100 0..100", "turn map", "copy map", "join map",
        "begin map town any", "step", "walk 1..60", "rowPut 0..99 any", "rowTake any", "rowDrop 0..99",
        "basket -9..99", "bid map 0..99 0..99", "bidTake", "bidDrop any", "build map", "knock",
    };

    /** The like of what is only asked. */
    public static final String[] ASKS = {
        "rowLook any", "ofMap map 0..10", "ofTown map town 0..11", "sums map 0..1", "length map town town",
        "beside map town 0..99 0..3", "window map town 0..100 0..100 0..3", "lines map town", "common 0..3",
        "ofWalk 0..5", "visited", "row any", "bidLook 0..3", "bids", "hops map town town", "hopWay map town town",
        "near map town town", "nearWay map town town", "settled map town", "into map town town", "treeLines map",
        "treeWay map town town", "treeMost map town town", "keys map any", "odd map", "flow map town town",
        "cut map town town any", "isSound", "digest",
    };

    private Face() {
    }

    public static int bound(String kind, int which) {
        return Integer.parseInt(kind.split("\\.\\.")[which]);
    }
}
