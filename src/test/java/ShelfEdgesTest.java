/** The edges of promises 31 to 40: bodies and their acts, shelves and their rows, what is counted. */
public final class ShelfEdgesTest {
    private static final int BAD = Edges.BAD, FULL = Edges.FULL;
    private static final int NOTHING_THERE = Edges.NOTHING_THERE, OTHER_KIND = Edges.OTHER_KIND;
    private static final int NO_PLACE = Edges.NO_PLACE, SIZE_BELOW_ZERO = Edges.SIZE_BELOW_ZERO;
    private static final int[] FAR = {Edges.LEAST, Edges.LEAST + 1, -1000, -60, 1000, Edges.MOST - 1, Edges.MOST};
    private static final int[] NO_SHELF = {-1, 6, 7, -6, Edges.LEAST, Edges.MOST};
    private static final Edges e = new Edges();

    public static void main(String[] args) {
        bodyKinds();
        bodyFull();
        actBounds();
        actWithoutATrace();
        actWraps();
        traceBounds();
        traceOfTheLatest();
        keepBounds();
        keepOver();
        rowBounds();
        rowBadAheadOfSize();
        rowIsNew();
        putRefusals();
        putRefusalsInOrder();
        putLowestBits();
        elementRefusals();
        elementAtTheEnds();
        shiftRefusals();
        shiftRefusalsInOrder();
        shiftPlaces();
        shiftBelowNought();
        shiftAsTheyWere();
        shiftSorts();
        takenRefusals();
        takenRefusalsInOrder();
        takenKinds();
        countBounds();
        e.end("the shelves' edges hold");
    }

    private static void bodyKinds() {
        e.says("A FOLDING of a KIND (0 .. 7) is kept: its number. BAD");
        for (int kind = -3; kind <= 11; kind++) {
            MapFold x = new MapFold();
            boolean taken = kind >= 0 && kind <= 7;
            e.due("kind " + kind, x.body(kind), taken ? 0 : BAD);
            e.due("bodies", x.count(4), taken ? 1 : 0);
            e.due("it can act", x.act(0, 0, 5) == 0 ? 0 : 1, taken ? 1 : 0);
        }
        for (int kind : new int[] {-1, 8, 9, Edges.LEAST, Edges.MOST}) {
            e.unchanged("kind " + kind, Edges.RICH, x -> x.body(kind), BAD);
        }
    }

    private static final Edges.Use FIFTY = x -> {
        for (int i = 0; i < 50; i++) {
            x.body(i % 8);
        }
        return x.count(4);
    };

    private static void bodyFull() {
        e.says("BODIES 0 .. 49. BAD, FULL");
        MapFold x = new MapFold();
        for (int i = 0; i < 50; i++) {
            e.due("body " + i, x.body(7 - i % 8), i);
        }
        for (int kind = 0; kind < 8; kind++) {
            int k = kind;
            e.unchanged("the 51st, kind " + kind, FIFTY, y -> y.body(k), FULL);
        }
        e.unchanged("BAD ahead of FULL", FIFTY, y -> y.body(8), BAD);
        e.unchanged("BAD ahead of FULL", FIFTY, y -> y.body(-1), BAD);
        e.due("the 50th acts", Edges.made(FIFTY).act(49, 0, 1), 49 + 1 + 3);
        e.due("and is kept", Edges.made(FIFTY).keep(0, 49), 1);
        e.unchanged("no 51st is kept", FIFTY, y -> y.keep(0, 50), BAD);
    }

    private static void actBounds() {
        e.says("An ACT (0 .. 3) of a FOLDING with x. 0, and no TRACE then: no such FOLDING, ACT.");
        for (int body = -2; body <= 10; body++) {
            for (int act = -2; act <= 6; act++) {
                MapFold x = Edges.made(Edges.RICH);
                boolean there = body >= 0 && body < 8 && act >= 0 && act < 4;
                int answer = x.act(body, act, 1000);
                e.due("body " + body + ", act " + act, answer == 0 ? 0 : 1, there ? 1 : 0);
                e.due("bodies that ran", x.count(5) == 0 ? 0 : 1, there ? 1 : 0);
                e.due("the trace", x.trace(0) == BAD ? 0 : 1, there ? 1 : 0);
            }
        }
        MapFold none = new MapFold();
        e.due("no body at all", none.act(0, 0, 9), 0);
    }

    private static void actWithoutATrace() {
        e.says("0, and no TRACE then: nothing else is changed");
        Edges.Use before = Edges.both(Edges.RICH, x -> x.act(-1, 0, 0));
        int[][] wrong = {{8, 0}, {-1, 3}, {0, 4}, {0, -1}, {8, 4}, {Edges.LEAST, 0}, {Edges.MOST, 3}, {7, Edges.LEAST},
            {7, Edges.MOST}};
        for (int[] w : wrong) {
            e.due("the trace is empty", Edges.made(Edges.both(Edges.RICH, x -> x.act(w[0], w[1], 5))).count(5), 0);
            e.unchanged("body " + w[0] + ", act " + w[1], before, x -> x.act(w[0], w[1], 5), 0);
            e.same("from a trace on", Edges.state(Edges.both(Edges.RICH, x -> x.act(w[0], w[1], 5))),
                Edges.state(before));
        }
    }

    private static void actWraps() {
        e.says("ACTS with x (an int that wraps)");
        int[] given = {Edges.LEAST, Edges.LEAST + 1, -1, 0, 1, Edges.MOST - 1, Edges.MOST};
        for (int x : given) {
            MapFold m = Edges.made(Edges.RICH);
            e.due("1 folds", m.act(4, 0, x), x + 4);
            e.due("10 lays", m.act(0, 1, x), x * 2);
            e.due("11 wears", m.act(2, 2, x), x ^ 2);
            e.due("2 tells", m.act(0, 3, x), x * 2 - 1);
            e.due("20 folds", m.act(1, 0, x), x + 1 + 3);
            e.due("30 lays", m.act(2, 1, x), -((x + 2) * 2));
            e.due("40 wears", m.act(3, 2, x), (x ^ 3) * 3);
            e.due("41 lays", m.act(3, 1, x), -((x + 1 + 3) * 2));
            e.due("50 wears", m.act(4, 2, x), (x ^ 4) - (2 + 4));
            e.due("60 tells", m.act(5, 3, x), (-((x + 1 + 5) * 2) - (1 ^ 5) * 3) ^ 5);
            e.due("70 folds", m.act(6, 0, x), (x + 6 + 3) * 2);
            e.due("80 lays", m.act(7, 1, x), (x + 7) * 2 + ((2 ^ 7) - (2 + 7)));
            e.due("81 tells", m.act(7, 3, x),
                (x + 7) * 2 + ((2 ^ 7) - (2 + 7)) - ((1 ^ 7) - (2 + 7)) - 1);
        }
        MapFold m = Edges.made(FIFTY);
        e.due("n is its number, 48 of kind 0", m.act(48, 0, Edges.MOST), Edges.MOST + 48);
    }

    private static void traceBounds() {
        e.says("THE TRACE's i-th body. BAD; the first 24 are kept");
        int[] ran = {81, 2, 80, 10, 1, 50, 11, 1, 50, 11, 1};
        for (int i = -3; i <= 30; i++) {
            int at = i;
            e.unchanged("trace " + i, Edges.RICH, x -> x.trace(at), i >= 0 && i < ran.length ? ran[i] : BAD);
        }
        for (int i : FAR) {
            e.unchanged("trace " + i, Edges.RICH, x -> x.trace(i), BAD);
        }
    }

    private static void traceOfTheLatest() {
        e.says("the bodies that ran in the latest act(), as they began");
        MapFold x = Edges.made(Edges.RICH);
        x.act(0, 0, 1);
        e.due("one ran", x.count(5), 1);
        e.due("it", x.trace(0), 1);
        e.due("nothing of the one ahead", x.trace(1), BAD);
        x.act(0, 9, 1);
        e.due("none ran", x.count(5), 0);
        e.due("nothing of the one ahead", x.trace(0), BAD);
        int[][] due = {{0, 3, 2, 10, 1, 11}, {1, 3, 2, 10, 20, 1, 11}, {2, 3, 2, 30, 10, 1, 11},
            {3, 3, 2, 41, 30, 10, 1, 40, 11}, {4, 3, 2, 10, 1, 50, 11, 1}, {5, 3, 60, 2, 41, 30, 10, 1, 40, 11},
            {6, 3, 2, 10, 70, 20, 1, 11}};
        for (int[] d : due) {
            x.act(d[0], d[1], 5);
            e.due("ran of kind " + d[0], x.count(5), d.length - 2);
            for (int i = 2; i < d.length; i++) {
                e.due("trace " + (i - 2) + " of kind " + d[0], x.trace(i - 2), d[i]);
            }
            e.due("behind the last of kind " + d[0], x.trace(d.length - 2), BAD);
        }
    }

    private static void keepBounds() {
        e.says("A SHELF holds nothing (body -1), or a FOLDING: 1. BAD");
        for (int shelf = -2; shelf <= 8; shelf++) {
            for (int body = -3; body <= 10; body++) {
                MapFold x = Edges.made(Edges.RICH);
                boolean taken = shelf >= 0 && shelf < 6 && body >= -1 && body < 8;
                e.due("keep " + shelf + ", " + body, x.keep(shelf, body), taken ? 1 : BAD);
                if (taken) {
                    e.due("it holds it", x.taken(shelf, 0), body == -1 ? NOTHING_THERE : body);
                }
            }
        }
        for (int shelf : NO_SHELF) {
            e.unchanged("shelf " + shelf, Edges.RICH, x -> x.keep(shelf, 0), BAD);
            e.unchanged("nothing on shelf " + shelf, Edges.RICH, x -> x.keep(shelf, -1), BAD);
            e.unchanged("neither", Edges.RICH, x -> x.keep(shelf, 8), BAD);
        }
        for (int body : new int[] {-2, 8, 9, 49, 50, Edges.LEAST, Edges.MOST}) {
            for (int shelf = 0; shelf < 6; shelf++) {
                int s = shelf;
                e.unchanged("body " + body, Edges.RICH, x -> x.keep(s, body), BAD);
            }
        }
        e.unchanged("no bodies yet", Edges.NEW, x -> x.keep(0, 0), BAD);
        e.unchanged("nothing where nothing is", Edges.NEW, x -> x.keep(0, -1), 1);
    }

    private static void keepOver() {
        e.says("SHELVES 0 .. 5 each hold nothing, a FOLDING, or a ROW");
        MapFold x = Edges.made(Edges.RICH);
        e.due("a folding over a row", x.keep(2, 3), 1);
        e.due("no row any more", x.put(2, 0, 1), OTHER_KIND);
        e.due("a row over a folding", x.row(1, 0, 60), 1);
        e.due("no folding any more", x.taken(1, 0), OTHER_KIND);
        e.due("its elements are 0", x.element(1, 0) + x.element(1, 59), 0);
        e.due("nothing over a row", x.keep(3, -1), 1);
        e.due("nothing is there", x.put(3, 0, 1), NOTHING_THERE);
        e.due("one folding on two shelves", x.keep(4, 3), 1);
        e.due("on the one", x.taken(2, 3), 3);
        e.due("on the other", x.taken(4, 2), 3);
        e.due("the others stay", x.put(5, 0, 1), NO_PLACE);
    }

    private static void rowBounds() {
        e.says("a ROW: of 0 bytes .. 4 booleans, of 0 .. 60 elements. A SHELF holds a ROW: 1. BAD (sort, n above 60); -14");
        for (int sort = -2; sort <= 7; sort++) {
            for (int n = -2; n <= 63; n++) {
                MapFold x = new MapFold();
                boolean bad = sort < 0 || sort > 4 || n > 60;
                e.due("row of " + sort + ", " + n, x.row(0, sort, n), bad ? BAD : n < 0 ? SIZE_BELOW_ZERO : 1);
                if (!bad && n >= 0) {
                    e.due("its last element", x.put(0, n - 1, 1), n == 0 ? NO_PLACE : 1);
                    e.due("the one behind it", x.put(0, n, 1), NO_PLACE);
                } else {
                    e.due("nothing came", x.put(0, 0, 1), NOTHING_THERE);
                }
            }
        }
        for (int shelf = -2; shelf <= 8; shelf++) {
            e.due("shelf " + shelf, new MapFold().row(shelf, 0, 1), shelf >= 0 && shelf < 6 ? 1 : BAD);
        }
        for (int shelf = 0; shelf < 6; shelf++) {
            int s = shelf;
            e.unchanged("61", Edges.RICH, x -> x.row(s, 0, 61), BAD);
            e.unchanged("sort 5", Edges.RICH, x -> x.row(s, 5, 1), BAD);
            e.unchanged("sort -1", Edges.RICH, x -> x.row(s, -1, 1), BAD);
            e.unchanged("-1", Edges.RICH, x -> x.row(s, 0, -1), SIZE_BELOW_ZERO);
        }
        e.unchanged("the least", Edges.RICH, x -> x.row(2, 0, Edges.LEAST), SIZE_BELOW_ZERO);
        e.unchanged("the highest", Edges.RICH, x -> x.row(2, 0, Edges.MOST), BAD);
    }

    private static void rowBadAheadOfSize() {
        e.says("of several the one named first: BAD, -14");
        for (int shelf : NO_SHELF) {
            e.unchanged("shelf " + shelf + " and -1", Edges.RICH, x -> x.row(shelf, 0, -1), BAD);
            e.unchanged("shelf " + shelf + " and 61", Edges.RICH, x -> x.row(shelf, 0, 61), BAD);
        }
        for (int sort : new int[] {-1, 5, Edges.LEAST, Edges.MOST}) {
            e.unchanged("sort " + sort + " and -1", Edges.RICH, x -> x.row(0, sort, -1), BAD);
            e.unchanged("sort " + sort + " and the least", Edges.RICH, x -> x.row(2, sort, Edges.LEAST), BAD);
        }
    }

    private static void rowIsNew() {
        e.says("of 0 .. 60 elements, 0 at first (false)");
        for (int sort = 0; sort < 5; sort++) {
            MapFold x = new MapFold();
            x.row(0, 3, 60);
            for (int i = 0; i < 60; i++) {
                x.put(0, i, -1);
            }
            x.row(0, sort, 30);
            x.row(0, sort, 60);
            for (int i = 0; i < 60; i++) {
                e.due("element " + i + " of sort " + sort, x.element(0, i), 0);
            }
        }
    }

    private static void putRefusals() {
        e.says("Element i of a ROW becomes v: 1. BAD, -11, -12, -13");
        for (int shelf : NO_SHELF) {
            e.unchanged("shelf " + shelf, Edges.RICH, x -> x.put(shelf, 0, 1), BAD);
        }
        e.unchanged("nothing", Edges.RICH, x -> x.put(0, 0, 1), NOTHING_THERE);
        e.unchanged("a folding", Edges.RICH, x -> x.put(1, 0, 1), OTHER_KIND);
        e.unchanged("place -1", Edges.RICH, x -> x.put(2, -1, 1), NO_PLACE);
        e.unchanged("place 60 of 60", Edges.RICH, x -> x.put(2, 60, 1), NO_PLACE);
        e.unchanged("place 3 of 3", Edges.RICH, x -> x.put(3, 3, 1), NO_PLACE);
        e.unchanged("place 0 of none", Edges.RICH, x -> x.put(5, 0, 1), NO_PLACE);
        for (int i : FAR) {
            e.unchanged("place " + i, Edges.RICH, x -> x.put(2, i, 1), NO_PLACE);
        }
        MapFold x = Edges.made(Edges.RICH);
        e.due("place 0", x.put(2, 0, 9), 1);
        e.due("place 59", x.put(2, 59, 8), 1);
        e.due("they are there", x.element(2, 0) * 10 + x.element(2, 59), 98);
        e.due("the others stay", x.element(2, 1) * 10 + x.element(2, 58), 23);
    }

    private static void putRefusalsInOrder() {
        e.says("of several the one named first: BAD, -11, -12, -13");
        for (int i : new int[] {-1, 60, Edges.LEAST, Edges.MOST}) {
            e.unchanged("no shelf, no place", Edges.RICH, x -> x.put(6, i, 1), BAD);
            e.unchanged("nothing, no place", Edges.RICH, x -> x.put(0, i, 1), NOTHING_THERE);
            e.unchanged("a folding, no place", Edges.RICH, x -> x.put(1, i, 1), OTHER_KIND);
        }
    }

    private static void putLowestBits() {
        e.says("what is put in keeps its lowest bits (a boolean: whether it is not 0; 1 or 0)");
        long[] given = {0, 1, -1, 2, 127, 128, -128, -129, 255, 256, 257, 32767, 32768, -32768, -32769, 65535, 65536,
            Integer.MAX_VALUE, 1L + Integer.MAX_VALUE, Integer.MIN_VALUE, Integer.MIN_VALUE - 1L, 0xffffffffL, 1L << 32,
            1L << 33, 1L << 63, Long.MAX_VALUE, Long.MIN_VALUE, Long.MIN_VALUE + 1, 0x123456789abcdef0L};
        for (long v : given) {
            long[] due = {(byte) v, (short) v, (int) v, v, v != 0 ? 1 : 0};
            for (int sort = 0; sort < 5; sort++) {
                MapFold x = new MapFold();
                x.row(0, sort, 3);
                e.due("put " + v, x.put(0, 1, v), 1);
                e.due(v + " of sort " + sort, x.element(0, 1), due[sort]);
                e.due("beside it", x.element(0, 0) + x.element(0, 2), 0);
                x.put(0, 1, 0);
                e.due("0 again", x.element(0, 1), 0);
            }
        }
    }

    private static void elementRefusals() {
        e.says("Element i of a ROW; Long.MIN_VALUE: BAD, -11 to -13.");
        for (int shelf : NO_SHELF) {
            e.unchanged("shelf " + shelf, Edges.RICH, x -> x.element(shelf, 0), Long.MIN_VALUE);
        }
        for (int i : new int[] {0, -1, 60, Edges.LEAST, Edges.MOST}) {
            e.unchanged("nothing, " + i, Edges.RICH, x -> x.element(0, i), Long.MIN_VALUE);
            e.unchanged("a folding, " + i, Edges.RICH, x -> x.element(1, i), Long.MIN_VALUE);
            e.unchanged("a row of none, " + i, Edges.RICH, x -> x.element(5, i), Long.MIN_VALUE);
            e.unchanged("no shelf, " + i, Edges.RICH, x -> x.element(6, i), Long.MIN_VALUE);
        }
        for (int i : FAR) {
            e.unchanged("place " + i, Edges.RICH, x -> x.element(2, i), Long.MIN_VALUE);
        }
        e.unchanged("place -1", Edges.RICH, x -> x.element(3, -1), Long.MIN_VALUE);
        e.unchanged("place 3 of 3", Edges.RICH, x -> x.element(3, 3), Long.MIN_VALUE);
    }

    private static void elementAtTheEnds() {
        e.says("Element i of a ROW, the first and the last");
        e.unchanged("the first of 60", Edges.RICH, x -> x.element(2, 0), 1);
        e.unchanged("the last of 60", Edges.RICH, x -> x.element(2, 59), 4);
        e.unchanged("the first of 3", Edges.RICH, x -> x.element(3, 0), 0);
        e.unchanged("the second of 3", Edges.RICH, x -> x.element(3, 1), Long.MAX_VALUE);
        e.unchanged("the last of 3", Edges.RICH, x -> x.element(3, 2), 0);
        e.unchanged("true", Edges.RICH, x -> x.element(4, 1), 1);
        MapFold x = Edges.made(Edges.RICH);
        x.put(3, 0, Long.MIN_VALUE);
        e.due("the least long itself", x.element(3, 0), Long.MIN_VALUE);
    }

    private static void shiftRefusals() {
        e.says("BAD, -11 (either), -12 (no ROWS, or of unlike sorts), -13");
        for (int shelf : NO_SHELF) {
            e.unchanged("from shelf " + shelf, Edges.RICH, x -> x.shift(shelf, 0, 2, 0, 1), BAD);
            e.unchanged("to shelf " + shelf, Edges.RICH, x -> x.shift(2, 0, shelf, 0, 1), BAD);
            e.unchanged("both " + shelf, Edges.RICH, x -> x.shift(shelf, 0, shelf, 0, 1), BAD);
        }
        e.unchanged("from nothing", Edges.RICH, x -> x.shift(0, 0, 2, 0, 1), NOTHING_THERE);
        e.unchanged("to nothing", Edges.RICH, x -> x.shift(2, 0, 0, 0, 1), NOTHING_THERE);
        e.unchanged("both nothing", Edges.RICH, x -> x.shift(0, 0, 0, 0, 1), NOTHING_THERE);
        e.unchanged("none from nothing", Edges.RICH, x -> x.shift(0, 0, 2, 0, 0), NOTHING_THERE);
        e.unchanged("from a folding", Edges.RICH, x -> x.shift(1, 0, 2, 0, 1), OTHER_KIND);
        e.unchanged("to a folding", Edges.RICH, x -> x.shift(2, 0, 1, 0, 1), OTHER_KIND);
        e.unchanged("both a folding", Edges.RICH, x -> x.shift(1, 0, 1, 0, 0), OTHER_KIND);
        e.unchanged("bytes to longs", Edges.RICH, x -> x.shift(2, 0, 3, 0, 1), OTHER_KIND);
        e.unchanged("longs to bytes", Edges.RICH, x -> x.shift(3, 0, 2, 0, 1), OTHER_KIND);
        e.unchanged("none of unlike sorts", Edges.RICH, x -> x.shift(3, 0, 4, 0, 0), OTHER_KIND);
        e.unchanged("none of unlike sorts, a row of none", Edges.RICH, x -> x.shift(5, 0, 2, 0, 0), OTHER_KIND);
    }

    private static void shiftRefusalsInOrder() {
        e.says("of several the one named first: BAD, -11, -12, -13");
        e.unchanged("no shelf, nothing", Edges.RICH, x -> x.shift(6, 0, 0, 0, 1), BAD);
        e.unchanged("nothing, no shelf", Edges.RICH, x -> x.shift(0, 0, -1, 0, 1), BAD);
        e.unchanged("no shelf, a folding", Edges.RICH, x -> x.shift(1, 0, 6, 0, 1), BAD);
        e.unchanged("no shelf, no place", Edges.RICH, x -> x.shift(2, 60, 6, 0, 1), BAD);
        e.unchanged("no shelf, below 0", Edges.RICH, x -> x.shift(2, 0, 6, 0, -1), BAD);
        e.unchanged("nothing, a folding", Edges.RICH, x -> x.shift(0, 0, 1, 0, 1), NOTHING_THERE);
        e.unchanged("a folding, nothing", Edges.RICH, x -> x.shift(1, 0, 0, 0, 1), NOTHING_THERE);
        e.unchanged("nothing, no place", Edges.RICH, x -> x.shift(2, -1, 0, 99, 1), NOTHING_THERE);
        e.unchanged("nothing, below 0", Edges.RICH, x -> x.shift(0, 0, 2, 0, -1), NOTHING_THERE);
        e.unchanged("a folding, no place", Edges.RICH, x -> x.shift(2, 61, 1, 0, 1), OTHER_KIND);
        e.unchanged("unlike sorts, no place", Edges.RICH, x -> x.shift(2, -1, 3, 4, 1), OTHER_KIND);
        e.unchanged("unlike sorts, below 0", Edges.RICH, x -> x.shift(2, 0, 3, 0, -1), OTHER_KIND);
    }

    /** Shelf 0 with five ints, 1 to 5; shelf 1 with three, 7, 8, 9. */
    private static final Edges.Use FIVE_AND_THREE = x -> {
        x.row(0, 2, 5);
        x.row(1, 2, 3);
        for (int i = 0; i < 5; i++) {
            x.put(0, i, i + 1);
        }
        for (int i = 0; i < 3; i++) {
            x.put(1, i, i + 7);
        }
        return 0;
    };

    private static void shiftPlaces() {
        e.says("-13 a place that is not there");
        for (int i = -2; i <= 7; i++) {
            for (int j = -2; j <= 5; j++) {
                for (int n = 0; n <= 6; n++) {
                    boolean there = i >= 0 && i + n <= 5 && j >= 0 && j + n <= 3;
                    MapFold x = Edges.made(FIVE_AND_THREE);
                    e.due("shift " + i + ", " + j + ", " + n, x.shift(0, i, 1, j, n), there ? n : NO_PLACE);
                    for (int at = 0; at < 3; at++) {
                        boolean came = there && at >= j && at < j + n;
                        e.due("element " + at, x.element(1, at), came ? i + at - j + 1 : at + 7);
                    }
                }
            }
        }
        int[][] far = {{Edges.MOST, 0, 1}, {0, Edges.MOST, 1}, {1, 0, Edges.MOST}, {0, 1, Edges.MOST},
            {Edges.MOST, Edges.MOST, Edges.MOST}, {Edges.LEAST, 0, 1}, {0, Edges.LEAST, 1}, {Edges.LEAST, 0, 0},
            {0, Edges.LEAST, 0}, {6, 0, 0}, {0, 4, 0}, {-1, 0, 0}, {0, -1, 0}, {3, 0, 3}, {0, 1, 3}};
        for (int[] f : far) {
            e.unchanged("shift " + f[0] + ", " + f[1] + ", " + f[2], FIVE_AND_THREE,
                x -> x.shift(0, f[0], 1, f[1], f[2]), NO_PLACE);
        }
        e.unchanged("none, at the ends", FIVE_AND_THREE, x -> x.shift(0, 5, 1, 3, 0), 0);
        e.unchanged("none, at the beginnings", FIVE_AND_THREE, x -> x.shift(0, 0, 1, 0, 0), 0);
        e.unchanged("a row of none on itself", x -> x.row(0, 3, 0), x -> x.shift(0, 0, 0, 0, 0), 0);
        e.unchanged("a row of none, one", x -> x.row(0, 3, 0), x -> x.shift(0, 0, 0, 0, 1), NO_PLACE);
    }

    private static void shiftBelowNought() {
        e.says("n elements of a ROW: a number of them below 0 leads to a place that is not there (-13)");
        for (int n : new int[] {-1, -2, -5, Edges.LEAST, Edges.LEAST + 1}) {
            e.unchanged("n " + n, FIVE_AND_THREE, x -> x.shift(0, 0, 1, 0, n), NO_PLACE);
            e.unchanged("n " + n, FIVE_AND_THREE, x -> x.shift(0, 3, 1, 2, n), NO_PLACE);
            e.unchanged("n " + n + " on itself", FIVE_AND_THREE, x -> x.shift(0, 5, 0, 5, n), NO_PLACE);
        }
    }

    private static void shiftAsTheyWere() {
        e.says("come to another one (or the same) from j on, as they all were before: n");
        for (int i = 0; i <= 5; i++) {
            for (int j = 0; j <= 5; j++) {
                for (int n = 0; n <= 5 - Math.max(i, j); n++) {
                    MapFold x = Edges.made(FIVE_AND_THREE);
                    e.due("on itself", x.shift(0, i, 0, j, n), n);
                    for (int at = 0; at < 5; at++) {
                        e.due("from " + i + " to " + j + ", " + n + ": element " + at, x.element(0, at),
                            at >= j && at < j + n ? i + at - j + 1 : at + 1);
                    }
                }
            }
        }
        MapFold x = Edges.made(FIVE_AND_THREE);
        x.row(2, 2, 60);
        e.due("all to a longer one", x.shift(0, 0, 2, 55, 5), 5);
        e.due("the last", x.element(2, 59) * 10 + x.element(2, 54), 50);
        x.row(3, 2, 60);
        e.due("sixty", x.shift(2, 0, 3, 0, 60), 60);
        e.due("the last", x.element(3, 59), 5);
        e.due("what was there stays", x.element(2, 59), 5);
    }

    private static void shiftSorts() {
        e.says("-12 (.. of unlike sorts)");
        for (int one = 0; one < 5; one++) {
            for (int other = 0; other < 5; other++) {
                MapFold x = new MapFold();
                x.row(0, one, 2);
                x.row(1, other, 2);
                x.put(0, 1, 1);
                e.due("sort " + one + " to " + other, x.shift(0, 1, 1, 0, 1), one == other ? 1 : OTHER_KIND);
                e.due("what came", x.element(1, 0), one == other ? 1 : 0);
            }
        }
    }

    private static void takenRefusals() {
        e.says("What a SHELF holds, taken for a FOLDING of KIND k (0 .. 7), or under it: its KIND. BAD, -11, -12");
        for (int shelf : NO_SHELF) {
            e.unchanged("shelf " + shelf, Edges.RICH, x -> x.taken(shelf, 0), BAD);
        }
        for (int k : new int[] {-1, 8, 9, Edges.LEAST, Edges.MOST}) {
            e.unchanged("kind " + k, Edges.RICH, x -> x.taken(1, k), BAD);
        }
        e.unchanged("nothing", Edges.RICH, x -> x.taken(0, 0), NOTHING_THERE);
        e.unchanged("a row", Edges.RICH, x -> x.taken(2, 0), OTHER_KIND);
        e.unchanged("a row of none", Edges.RICH, x -> x.taken(5, 7), OTHER_KIND);
    }

    private static void takenRefusalsInOrder() {
        e.says("of several the one named first: BAD, -11, -12");
        for (int k : new int[] {-1, 8}) {
            e.unchanged("nothing, kind " + k, Edges.RICH, x -> x.taken(0, k), BAD);
            e.unchanged("a row, kind " + k, Edges.RICH, x -> x.taken(2, k), BAD);
            e.unchanged("no shelf, kind " + k, Edges.RICH, x -> x.taken(6, k), BAD);
        }
    }

    private static void takenKinds() {
        e.says("1 RIGHT under FOLDING .. 3 BULGED under WRONG .. 5 TORN under BULGED; 6 LOOSE under RIGHT; 7 STUCK under SHOWN");
        String[] above = {"0", "01", "02", "023", "04", "0235", "016", "047"};
        for (int kind = 0; kind < 8; kind++) {
            for (int k = 0; k < 8; k++) {
                int own = kind;
                int as = k;
                Edges.Use before = x -> x.body(0) + x.body(own) + x.keep(5, 1);
                e.unchanged("kind " + kind + " for " + k, before, x -> x.taken(5, as),
                    above[kind].indexOf('0' + k) >= 0 ? kind : OTHER_KIND);
            }
        }
    }

    private static void countBounds() {
        e.says("How many: 0 FIELDS .. 5 bodies that ran in the latest act(). BAD");
        int[] due = {12, 4, 2, 2, 8, 11};
        for (int what = -2; what <= 8; what++) {
            int w = what;
            e.unchanged("count " + what, Edges.RICH, x -> x.count(w), what >= 0 && what < 6 ? due[what] : BAD);
        }
        for (int what : FAR) {
            e.unchanged("count " + what, Edges.RICH, x -> x.count(what), BAD);
        }
        e.due("the most fields", Edges.sheetOf(48).count(0), 32);
        e.due("the fewest", Edges.sheetOf(11).count(0), 1);
    }
}
