/** The edges of promises 13 to 21: plans, what they cost, what lies where behind them, what is sought, the wind. */
public final class PlanEdgesTest {
    private static final int BAD = Edges.BAD, NOT = Edges.NOT, FULL = Edges.FULL, STATE = Edges.STATE;
    private static final int[] FAR = {Edges.LEAST, Edges.LEAST + 1, -1000, -100, 100000, Edges.MOST - 1, Edges.MOST};
    private static final Edges e = new Edges();

    /** Twelve folds, of which ten can be done on the largest sheet: seven by columns, three by rows. */
    private static final Edges.Use LONGEST = x -> {
        x.sheet(48);
        for (int i = 0; i < 12; i++) {
            x.plan(1, i < 7 ? 0 : 4);
        }
        return 0;
    };
    /** Two rows, four columns; two folds can be done, the third can't, the fourth could. */
    private static final Edges.Use SHORT = x -> {
        x.plan(2, 0);
        x.plan(1, 4);
        x.plan(2, 0);
        return x.plan(1, 0);
    };

    public static void main(String[] args) {
        planBounds();
        planLineNought();
        planFull();
        planBadAheadOfFull();
        plansShelves();
        plansMany();
        plansPlaces();
        plansMissing();
        plansOtherKind();
        plansBadAheadOfOtherKind();
        plansNotSo();
        plansFull();
        canEnds();
        canOfNone();
        canAsFlat();
        costBounds();
        costTorn();
        costChangesNothing();
        liesBounds();
        liesBehindCan();
        topBounds();
        besideBounds();
        besidePairs();
        besideBoth();
        wishedBounds();
        wishedFields();
        wishedDone();
        soughtAnew();
        rightBounds();
        rightFields();
        rightDone();
        rightOfEqualOnes();
        windBounds();
        windWhats();
        windAtTheEnds();
        windThreshold();
        windDraws();
        windMeanIsCut();
        windOfNone();
        e.end("the plans' edges hold");
    }

    private static void planBounds() {
        e.says("A FOLD comes to THE PLAN (LINE 1 .. 7, WAY 0 .. 7): how many there are. BAD");
        for (int line = -3; line <= 12; line++) {
            for (int way = -3; way <= 12; way++) {
                MapFold x = new MapFold();
                boolean taken = line >= 1 && line <= 7 && way >= 0 && way <= 7;
                e.due("plan " + line + ", " + way, x.plan(line, way), line == 0 ? 0 : taken ? 1 : BAD);
                e.due("there are", x.count(1), taken ? 1 : 0);
            }
        }
        int[][] wrong = {{-1, 0}, {8, 0}, {1, -1}, {1, 8}, {7, 8}, {8, 7}, {-1, -1}, {8, 8}};
        for (int[] w : wrong) {
            e.unchanged("plan " + w[0] + ", " + w[1], Edges.RICH, x -> x.plan(w[0], w[1]), BAD);
        }
        for (int far : FAR) {
            e.unchanged("line " + far, Edges.RICH, x -> x.plan(far, 0), BAD);
            e.unchanged("way " + far, Edges.RICH, x -> x.plan(1, far), BAD);
        }
    }

    private static void planLineNought() {
        e.says("LINE 0: it is empty then, 0");
        for (int way : new int[] {0, 7, 8, -1, Edges.LEAST, Edges.MOST}) {
            MapFold x = Edges.made(LONGEST);
            e.due("line 0, way " + way + ", a full plan", x.plan(0, way), 0);
            e.due("it is empty", x.count(1), 0);
            e.due("it can do nothing", x.cost(0), 0);
            e.due("an empty plan", x.plan(0, way), 0);
            e.due("the next is the first", x.plan(7, 7), 1);
        }
    }

    private static void planFull() {
        e.says("FULL: 12");
        MapFold x = new MapFold();
        for (int i = 1; i <= 12; i++) {
            e.due("fold " + i, x.plan(7, 7), i);
        }
        e.due("fold 13", x.plan(7, 7), FULL);
        e.unchanged("a full plan", LONGEST, y -> y.plan(1, 0), FULL);
        e.unchanged("a full plan", LONGEST, y -> y.plan(7, 7), FULL);
    }

    private static void planBadAheadOfFull() {
        e.says("of several the one named first: BAD, FULL");
        e.unchanged("line 8", LONGEST, y -> y.plan(8, 0), BAD);
        e.unchanged("line -1", LONGEST, y -> y.plan(-1, 0), BAD);
        e.unchanged("way 8", LONGEST, y -> y.plan(1, 8), BAD);
        e.unchanged("way -1", LONGEST, y -> y.plan(1, -1), BAD);
    }

    /** Sixty bytes on shelf 0: LINE 1 and WAY 2 by turns. */
    private static final Edges.Use SIXTY = x -> {
        x.row(0, 0, 60);
        for (int i = 0; i < 60; i++) {
            x.put(0, i, 1 + i % 2);
        }
        return 0;
    };

    private static MapFold withBytes(int... bytes) {
        MapFold x = new MapFold();
        x.row(0, 0, bytes.length);
        for (int i = 0; i < bytes.length; i++) {
            x.put(0, i, bytes[i]);
        }
        return x;
    }

    private static void plansShelves() {
        e.says("A PLAN FROM A ROW on a SHELF (0 .. 5). BAD");
        for (int shelf = -2; shelf <= 8; shelf++) {
            MapFold x = new MapFold();
            for (int s = 0; s < 6; s++) {
                x.row(s, 0, 2);
                x.put(s, 0, 1);
            }
            e.due("shelf " + shelf, x.plans(shelf, 0, 1), shelf >= 0 && shelf < 6 ? 1 : BAD);
        }
        for (int shelf : new int[] {-1, 6, Edges.LEAST, Edges.MOST}) {
            e.unchanged("shelf " + shelf, Edges.RICH, x -> x.plans(shelf, 0, 1), BAD);
        }
    }

    private static void plansMany() {
        e.says("n (1 .. 12) of them: how many came. BAD");
        for (int n = -2; n <= 15; n++) {
            MapFold x = Edges.made(SIXTY);
            boolean taken = n >= 1 && n <= 12;
            e.due(n + " of them", x.plans(0, 0, n), taken ? n : BAD);
            e.due("there are", x.count(1), taken ? n : 0);
        }
        for (int n : new int[] {0, 13, -1, Edges.LEAST, Edges.MOST}) {
            e.unchanged(n + " of them", Edges.RICH, x -> x.plans(2, 0, n), BAD);
        }
    }

    private static void plansPlaces() {
        e.says("it ends where the row .. ends (at a place below 0, too; within a two, too): those ahead came");
        for (int i = -4; i <= 64; i++) {
            for (int n : new int[] {1, 2, 11, 12}) {
                MapFold x = Edges.made(SIXTY);
                int there = i < 0 ? 0 : Math.max(0, (60 - i) / 2);
                e.due(n + " from place " + i, x.plans(0, i, n), Math.min(n, there));
                e.due("there are", x.count(1), Math.min(n, there));
            }
        }
        for (int i : new int[] {-1, -2, 59, 60, 61, Edges.LEAST, Edges.LEAST + 1, Edges.MOST - 1, Edges.MOST}) {
            e.unchanged("place " + i, Edges.RICH, x -> x.plans(2, i, 12), 0);
        }
        Edges.Use none = x -> x.row(0, 0, 0);
        Edges.Use one = x -> x.row(0, 0, 1) + x.put(0, 0, 1);
        e.unchanged("a row of none", none, x -> x.plans(0, 0, 1), 0);
        e.unchanged("a row of one", one, x -> x.plans(0, 0, 1), 0);
        e.due("a row of two", withBytes(1, 0).plans(0, 0, 1), 1);
        e.due("a row of three", withBytes(1, 0, 1).plans(0, 0, 2), 1);
    }

    private static void plansMissing() {
        e.says("it ends where the row is missing (a SHELF that holds nothing is missing)");
        e.unchanged("none at all", Edges.RICH, x -> x.plans(0, 0, 12), 0);
        e.unchanged("a place below 0", Edges.RICH, x -> x.plans(0, -1, 1), 0);
        Edges.Use gone = x -> {
            SIXTY.on(x);
            return x.keep(0, -1);
        };
        e.unchanged("one that was", gone, x -> x.plans(0, 0, 12), 0);
    }

    private static void plansOtherKind() {
        e.says("-12 (no ROW of bytes)");
        for (int sort = 0; sort < 5; sort++) {
            int s = sort;
            Edges.Use before = x -> {
                x.row(0, s, 4);
                x.put(0, 0, 1);
                return x.put(0, 2, 1);
            };
            if (sort == 0) {
                e.due("bytes", Edges.made(before).plans(0, 0, 2), 2);
            } else {
                e.unchanged("sort " + sort, before, x -> x.plans(0, 0, 2), Edges.OTHER_KIND);
            }
        }
        e.unchanged("a folding", Edges.RICH, x -> x.plans(1, 0, 1), Edges.OTHER_KIND);
        e.unchanged("a row of no shorts", Edges.RICH, x -> x.plans(5, 0, 1), Edges.OTHER_KIND);
        e.unchanged("longs, a place below 0", Edges.RICH, x -> x.plans(3, -1, 1), Edges.OTHER_KIND);
        e.unchanged("longs, a place behind them", Edges.RICH, x -> x.plans(3, 3, 1), Edges.OTHER_KIND);
        e.unchanged("booleans, and the plan is full", x -> x.row(0, 4, 2) + LONGEST.on(x), x -> x.plans(0, 0, 1),
            Edges.OTHER_KIND);
    }

    private static void plansBadAheadOfOtherKind() {
        e.says("of several the one named first: BAD, -12");
        for (int shelf : new int[] {0, 1, 3, 5}) {
            e.unchanged("n 0, shelf " + shelf, Edges.RICH, x -> x.plans(shelf, 0, 0), BAD);
            e.unchanged("n 13, shelf " + shelf, Edges.RICH, x -> x.plans(shelf, -1, 13), BAD);
        }
    }

    private static void plansNotSo() {
        e.says("it ends where .. one is not so: those ahead came");
        int[][] wrong = {{0, 0}, {8, 0}, {-1, 0}, {1, 8}, {1, -1}, {127, 0}, {-128, 0}, {1, 127}, {1, -128}, {0, 8}};
        for (int[] w : wrong) {
            MapFold x = withBytes(1, 0, 7, 7, w[0], w[1], 1, 0);
            e.due("the third is " + w[0] + ", " + w[1], x.plans(0, 0, 4), 2);
            e.due("two there are", x.count(1), 2);
            e.due("from it on none", x.plans(0, 4, 2), 0);
            e.due("two there are", x.count(1), 2);
            e.due("behind it one", x.plans(0, 6, 1), 1);
        }
        for (int line = 1; line <= 7; line++) {
            for (int way = 0; way <= 7; way++) {
                e.due("line " + line + ", way " + way, withBytes(line, way).plans(0, 0, 1), 1);
            }
        }
        e.due("a byte keeps its lowest bits", withBytes(257, 256 + 7).plans(0, 0, 1), 1);
        MapFold x = withBytes(2, 0, 1, 5);
        x.plans(0, 0, 2);
        e.due("LINE comes first, then WAY", x.cost(0) * 1000 + x.top(1, 0) * 100 + x.lies(402, 2) * 10 + x.lies(402, 3),
            2131);
    }

    private static void plansFull() {
        e.says("it ends where .. THE PLAN is FULL: those ahead came");
        for (int ahead = 0; ahead <= 12; ahead++) {
            MapFold x = Edges.made(SIXTY);
            for (int i = 0; i < ahead; i++) {
                x.plan(1, 1);
            }
            e.due("twelve behind " + ahead, x.plans(0, 0, 12), 12 - ahead);
            e.due("twelve there are", x.count(1), 12);
        }
        Edges.Use full = x -> SIXTY.on(x) + LONGEST.on(x);
        e.unchanged("none comes", full, x -> x.plans(0, 0, 12), 0);
        e.unchanged("one wrong and full", full, x -> x.plans(0, 1, 12), 0);
    }

    private static void canEnds() {
        e.says("CAN: how many of its FOLDS can be done one after the other (the first that can't ends it)");
        e.unchanged("ten of twelve", LONGEST, x -> x.cost(0), 10);
        e.unchanged("two of four", SHORT, x -> x.cost(0), 2);
        Edges.Use first = x -> {
            x.plan(4, 0);
            return x.plan(1, 0);
        };
        e.unchanged("the first can't", first, x -> x.cost(0), 0);
        MapFold x = Edges.made(first);
        x.sheet(15);
        e.due("on a wider one both", x.cost(0), 2);
        x.sheet(14);
        e.due("line 4 of four columns", x.cost(0), 0);
        MapFold all = Edges.sheetOf(18);
        for (int i = 7; i >= 1; i--) {
            all.plan(i, 0);
        }
        e.due("line 7 at first leaves 7, and so on", all.cost(0), 7);
        MapFold rows = Edges.sheetOf(41);
        rows.plan(3, 4);
        rows.plan(2, 5);
        rows.plan(1, 6);
        e.due("rows", rows.cost(0), 3);
        rows.plan(1, 7);
        e.due("one pile has no line", rows.cost(0), 3);
    }

    private static void canOfNone() {
        e.says("CAN of a plan of none, and of a sheet of one field");
        for (int what = 0; what < 4; what++) {
            int w = what;
            e.unchanged("no plan, " + what, Edges.NEW, x -> x.cost(w), 0);
            e.unchanged("one field, " + what, x -> {
                x.sheet(11);
                return x.plan(1, 0);
            }, x -> x.cost(w), 0);
        }
    }

    private static void canAsFlat() {
        e.says("All of it is asked from FLAT, with CREASES as they are now");
        Edges.Use folded = x -> {
            x.fold(2, 1);
            x.fold(1, 4);
            return SHORT.on(x);
        };
        e.unchanged("can", folded, x -> x.cost(0), 2);
        e.unchanged("worn", folded, x -> x.cost(1), 2 * 3 + 4);
        e.unchanged("wrong", folded, x -> x.cost(2), 2);
        e.unchanged("a field", folded, x -> x.lies(700, 1), 3);
        e.unchanged("a pile", folded, x -> x.top(0, 13), 7);
    }

    private static void costBounds() {
        e.says("CAN (what 0), COST: WORN (1), WRONG (2), TORN (3). BAD");
        for (int what : new int[] {-1, 4, 5, -2}) {
            e.unchanged("what " + what, Edges.RICH, x -> x.cost(what), BAD);
        }
        for (int what : FAR) {
            e.unchanged("what " + what, Edges.RICH, x -> x.cost(what), BAD);
        }
    }

    private static void costTorn() {
        e.says("how many CREASES became TORN");
        int[][] due = {{1, 6}, {2, 0}};
        for (int[] d : due) {
            MapFold x = Edges.made(SHORT);
            x.limit(d[0]);
            e.due("by limit " + d[0], x.cost(3), d[1]);
        }
        MapFold x = Edges.made(SHORT);
        x.fold(2, 0);
        x.flat();
        x.limit(1);
        e.due("those torn ahead are not told", x.cost(3), 4);
        x.limit(2);
        e.due("those worn by one more are", x.cost(3), 2);
        x.limit(3);
        e.due("none", x.cost(3), 0);
    }

    private static void costChangesNothing() {
        e.says("All of it .. changes nothing");
        for (int what = 0; what < 4; what++) {
            int w = what;
            e.unchanged("cost " + what, Edges.RICH, x -> x.cost(w), Edges.made(Edges.RICH).cost(what));
        }
        e.unchanged("lies", Edges.RICH, x -> x.lies(1103, 1), 0);
        e.unchanged("top", Edges.RICH, x -> x.top(3, 0), Edges.made(Edges.RICH).top(3, 0));
        e.unchanged("beside", Edges.RICH, x -> x.beside(0, 1), 1);
        e.unchanged("wished", Edges.RICH, x -> x.wished(0, -1), NOT);
        e.unchanged("right", Edges.RICH, x -> x.right(-1), NOT);
        e.unchanged("wind", Edges.RICH, x -> x.wind(1, 20050, 1), Edges.made(Edges.RICH).wind(1, 20050, 1));
    }

    private static void liesBounds() {
        e.says("LIES (fn: 100 times the FIELD, and n): the row (0), the column (1), how many below (2), its face (3). BAD");
        for (int rc : new int[] {11, 18, 41, 24, 48}) {
            int fields = rc / 10 * (rc % 10);
            MapFold x = Edges.sheetOf(rc);
            for (int what = -2; what <= 5; what++) {
                boolean there = what >= 0 && what <= 3;
                e.due("the last field of " + rc, x.lies(100 * (fields - 1), what),
                    what == 0 ? rc / 10 - 1 : what == 1 ? rc % 10 - 1 : there ? 0 : BAD);
                e.due("the one behind it", x.lies(100 * fields, what), BAD);
                e.due("the one ahead of the first", x.lies(-100, what), BAD);
            }
        }
        for (int fn : new int[] {-1, -99, -100, -101, 1200, 1201, 1103 + 1, 1199, 99}) {
            e.unchanged("fn " + fn, Edges.RICH, x -> x.lies(fn, 0), BAD);
        }
        for (int far : FAR) {
            e.unchanged("fn " + far, Edges.RICH, x -> x.lies(far, 0), BAD);
            e.unchanged("what " + far, Edges.RICH, x -> x.lies(0, far), BAD);
        }
        e.unchanged("what -1", Edges.RICH, x -> x.lies(0, -1), BAD);
        e.unchanged("what 4", Edges.RICH, x -> x.lies(0, 4), BAD);
        e.unchanged("all three", Edges.RICH, x -> x.lies(1299, 4), BAD);
    }

    private static void liesBehindCan() {
        e.says("behind the first n FOLDS (0 .. CAN)");
        for (int n = 0; n <= 13; n++) {
            int behind = n;
            e.unchanged("behind " + n, LONGEST, x -> x.lies(behind, 2) < 0 ? BAD : 0, n <= 10 ? 0 : BAD);
            e.unchanged("behind " + n, LONGEST, x -> x.top(behind, 0) < 0 ? BAD : 0, n <= 10 ? 0 : BAD);
            e.unchanged("behind " + n, LONGEST, x -> x.beside(behind, 1) < 0 ? BAD : 0, n <= 10 ? 0 : BAD);
            e.unchanged("behind " + n, SHORT, x -> x.lies(behind, 2) < 0 ? BAD : 0, n <= 2 ? 0 : BAD);
            e.unchanged("behind " + n, SHORT, x -> x.top(behind, 0) < 0 ? BAD : 0, n <= 2 ? 0 : BAD);
            e.unchanged("behind " + n, SHORT, x -> x.beside(behind, 1) < 0 ? BAD : 0, n <= 2 ? 0 : BAD);
            e.unchanged("behind " + n, Edges.NEW, x -> x.lies(behind, 0), n == 0 ? 0 : BAD);
        }
        MapFold x = Edges.made(LONGEST);
        e.due("one pile behind all ten", x.lies(2410, 0) * 100 + x.lies(2410, 1), 0);
        int high = 0;
        for (int field = 0; field < 32; field++) {
            high = Math.max(high, x.lies(100 * field + 10, 2));
        }
        e.due("31 are below the topmost", high, 31);
    }

    private static void topBounds() {
        e.says("ON TOP of a PILE (rc) behind n FOLDS. BAD");
        for (int n = 0; n <= 2; n++) {
            int rows = n == 2 ? 1 : 2;
            int cols = n == 0 ? 4 : 2;
            for (int rc = -15; rc < 50; rc++) {
                boolean there = rc >= 0 && rc / 10 < rows && rc % 10 < cols;
                MapFold x = Edges.made(SHORT);
                e.due("pile " + rc + " behind " + n, Math.min(0, x.top(n, rc)), there ? 0 : BAD);
            }
        }
        for (int field = 0; field < 32; field++) {
            int rc = 10 * (field / 8) + field % 8;
            e.due("pile " + rc + " of the largest", Edges.sheetOf(48).top(0, rc), field);
        }
        for (int far : FAR) {
            e.unchanged("pile " + far, SHORT, x -> x.top(0, far), BAD);
            e.unchanged("behind " + far, SHORT, x -> x.top(far, 0), BAD);
        }
        e.unchanged("behind -1", SHORT, x -> x.top(-1, 0), BAD);
        e.unchanged("behind CAN and 1", SHORT, x -> x.top(3, 0), BAD);
        e.unchanged("neither", SHORT, x -> x.top(3, -1), BAD);
        e.unchanged("the pile that is gone", SHORT, x -> x.top(2, 10), BAD);
        e.unchanged("the pile that was not gone yet", SHORT, x -> x.top(1, 10), 5);
    }

    private static void besideBounds() {
        e.says("BESIDE (fg: 100 times the one FIELD and the other) behind n FOLDS: 1, 0. BAD (one and the same)");
        for (int field = 0; field < 9; field++) {
            int fg = 101 * field;
            e.unchanged("one and the same, " + field, SHORT, x -> x.beside(0, fg), BAD);
        }
        int[] wrong = {-1, -100, -101, 8, 9, 99, 108, 800, 801, 707 + 1, 900, 808, 3200, 10000};
        for (int fg : wrong) {
            e.unchanged("fg " + fg, SHORT, x -> x.beside(0, fg), BAD);
        }
        for (int far : FAR) {
            e.unchanged("fg " + far, SHORT, x -> x.beside(0, far), BAD);
            e.unchanged("behind " + far, SHORT, x -> x.beside(far, 1), BAD);
        }
        e.unchanged("behind -1", SHORT, x -> x.beside(-1, 1), BAD);
        e.unchanged("behind CAN and 1", SHORT, x -> x.beside(3, 1), BAD);
        e.unchanged("both", SHORT, x -> x.beside(3, 0), BAD);
        e.unchanged("the last two", SHORT, x -> x.beside(0, 706), 1);
        e.unchanged("the last two", SHORT, x -> x.beside(0, 607), 1);
    }

    private static void besidePairs() {
        e.says("in PILES beside each other");
        for (int rc : new int[] {24, 18, 41, 48}) {
            int cols = rc % 10;
            int fields = rc / 10 * cols;
            for (int one = 0; one < fields; one++) {
                MapFold x = Edges.sheetOf(rc);
                for (int other = 0; other < fields; other++) {
                    int rows = Math.abs(one / cols - other / cols);
                    int columns = Math.abs(one % cols - other % cols);
                    e.due(one + " and " + other + " of " + rc, x.beside(0, 100 * one + other),
                        one == other ? BAD : rows + columns == 1 ? 1 : 0);
                }
            }
        }
    }

    private static void besideBoth() {
        e.says("whether two FIELDS are both on top");
        // Behind the first fold 1 is over 2 and 0 over 3.
        int[][] due = {{1, 0, 1}, {0, 1, 1}, {2, 3, 0}, {1, 3, 0}, {2, 0, 0}, {1, 2, 0}, {0, 3, 0}, {1, 5, 1}, {2, 6, 0},
            {1, 6, 0}, {1, 4, 0}, {0, 5, 0}};
        for (int[] d : due) {
            e.unchanged(d[0] + " and " + d[1], SHORT, x -> x.beside(1, 100 * d[0] + d[1]), d[2]);
        }
    }

    private static int folds(int span) {
        return span == 1 ? 0 : span == 2 ? 1 : span <= 4 ? 2 : 3;
    }

    /** Every sheet, with what is due where a row of three folds or fewer is sought on it: 0, NOT or STATE. */
    private static int soughtOn(int rows, int cols) {
        return rows * cols > 16 ? STATE : folds(rows) + folds(cols) > 3 ? NOT : 0;
    }

    private static void wishedBounds() {
        e.says("how many FOLDS (i -1), the i-th. BAD (none such); STATE; NOT");
        for (int rows = 1; rows <= 4; rows++) {
            for (int cols = 1; cols <= 8; cols++) {
                Edges.Use before = sheet(rows, cols);
                int sought = soughtOn(rows, cols);
                int fields = rows * cols;
                int[] wrong = {-1, fields, fields + 1, Edges.LEAST, Edges.MOST};
                for (int field : wrong) {
                    e.unchanged("field " + field + " of " + fields, before, x -> x.wished(field, -1), BAD);
                    e.unchanged("field " + field + " of " + fields, before, x -> x.wished(field, 0), BAD);
                }
                int[] beyond = {-2, 3, 4, Edges.LEAST, Edges.MOST};
                for (int i : beyond) {
                    e.unchanged("i " + i + " of " + fields, before, x -> x.wished(fields - 1, i), BAD);
                }
                if (sought != 0) {
                    for (int i = -1; i <= 2; i++) {
                        int at = i;
                        e.unchanged("i " + i + " of " + fields, before, x -> x.wished(0, at), sought);
                        e.unchanged("i " + i + " of " + fields, before, x -> x.wished(fields - 1, at), sought);
                    }
                }
            }
        }
    }

    private static Edges.Use sheet(int rows, int cols) {
        return x -> x.sheet(10 * rows + cols);
    }

    private static void wishedFields() {
        e.says("(More than 16 FIELDS: STATE.)");
        int[][] due = {{28, NOT}, {44, NOT}, {36, STATE}, {37, STATE}, {45, STATE}, {35, NOT}, {27, NOT}, {48, STATE},
            {38, STATE}, {24, 3}, {42, 3}, {18, 3}};
        for (int[] d : due) {
            Edges.Use before = x -> x.sheet(d[0]);
            e.unchanged("of " + d[0], before, x -> x.wished(0, -1), d[1]);
            e.unchanged("right of " + d[0], before, x -> x.right(-3), d[1]);
        }
        Edges.Use folded = x -> {
            x.sheet(48);
            x.fold(4, 0);
            return x.fold(2, 4);
        };
        e.unchanged("fields, not piles", folded, x -> x.wished(0, -1), STATE);
        e.unchanged("fields, not piles", folded, x -> x.right(-1), STATE);
    }

    private static void wishedDone() {
        e.says("the fewest by which THE SHAPE is one PILE with a FIELD on top");
        for (int rows = 1; rows <= 4; rows++) {
            for (int cols = 1; cols <= 8; cols++) {
                if (soughtOn(rows, cols) == 0) {
                    for (int field = 0; field < rows * cols; field++) {
                        wishInDeed(sheet(rows, cols), field, folds(rows) + folds(cols));
                    }
                }
            }
        }
    }

    private static void wishInDeed(Edges.Use before, int field, int fewest) {
        MapFold asked = Edges.made(before);
        int folds = asked.wished(field, -1);
        if (folds == NOT) {
            return;
        }
        e.due("as few as there can be", folds >= fewest && folds <= 3 ? 1 : 0, 1);
        MapFold done = Edges.made(before);
        for (int i = 0; i < folds; i++) {
            int fold = asked.wished(field, i);
            e.due("it can be done", Math.min(0, done.fold(fold / 10, fold % 10)), 0);
        }
        e.due("field " + field + " on top", done.pile(0, -1), field);
        e.due("one pile", done.flat(), 1);
        for (int i = folds; i < 5; i++) {
            int behind = i;
            e.unchanged("behind the last", before, x -> x.wished(field, behind), BAD);
        }
    }

    private static void soughtAnew() {
        e.says("NOT: none. (More than 16 FIELDS: STATE.): whatever was sought ahead");
        MapFold x = Edges.sheetOf(12);
        e.due("one fold", x.wished(1, -1) * 100 + x.wished(1, 0), 111);
        e.due("right", x.right(-3), 1);
        x.sheet(44);
        e.due("none of 16", x.wished(1, -1), NOT);
        e.due("none of 16", x.right(-3), NOT);
        x.sheet(48);
        e.due("too many", x.wished(1, -1), STATE);
        e.due("too many", x.right(-3), STATE);
        x.sheet(24);
        e.due("three folds", x.right(-3) * 100 + x.right(-2), 310);
        e.due("three folds", x.wished(0, -1) * 100 + x.wished(0, 2), 312);
        x.sheet(11);
        e.due("no fold", x.wished(0, -1) + x.right(-1) + x.right(-2) + x.right(-3), 0);
        e.due("none such", x.wished(0, 0), BAD);
        e.due("none such", x.right(0), BAD);
    }

    private static void rightBounds() {
        e.says("WRONG (what -1), WORN (-2), FOLDS (-3), the what-th FOLD. BAD (none such); STATE; NOT");
        for (int rows = 1; rows <= 4; rows++) {
            for (int cols = 1; cols <= 8; cols++) {
                Edges.Use before = sheet(rows, cols);
                int sought = soughtOn(rows, cols);
                int[] beyond = {-4, -5, 3, 4, Edges.LEAST, Edges.MOST};
                for (int what : beyond) {
                    e.unchanged("what " + what, before, x -> x.right(what), BAD);
                }
                for (int what = -3; what <= 2 && sought != 0; what++) {
                    int w = what;
                    e.unchanged("what " + what + " of " + rows + " by " + cols, before, x -> x.right(w), sought);
                }
            }
        }
    }

    private static void rightFields() {
        e.says("RIGHT of one field: no FOLDS, none WRONG, none WORN");
        Edges.Use one = x -> x.sheet(11);
        e.unchanged("wrong", one, x -> x.right(-1), 0);
        e.unchanged("worn", one, x -> x.right(-2), 0);
        e.unchanged("folds", one, x -> x.right(-3), 0);
        e.unchanged("the first fold", one, x -> x.right(0), BAD);
    }

    private static void rightDone() {
        e.says("those with fewest WRONG, then least WORN more: WRONG, WORN, FOLDS, each FOLD");
        for (int rows = 1; rows <= 4; rows++) {
            for (int cols = 1; cols <= 8; cols++) {
                if (soughtOn(rows, cols) == 0) {
                    rightInDeed(sheet(rows, cols));
                }
            }
        }
    }

    private static void rightInDeed(Edges.Use flat) {
        Edges.Use before = x -> {
            flat.on(x);
            x.fold(1, 1);
            x.fold(1, 4);
            return x.flat();
        };
        MapFold asked = Edges.made(before);
        MapFold done = Edges.made(before);
        int folds = asked.right(-3);
        for (int i = 0; i < folds; i++) {
            int fold = asked.right(i);
            asked.plan(fold / 10, fold % 10);
            done.fold(fold / 10, fold % 10);
        }
        e.due("wrong", asked.right(-1), done.led(1));
        e.due("worn", asked.right(-2), asked.cost(1));
        e.due("one pile", done.flat(), 1);
        for (int i = folds; i < 5; i++) {
            int behind = i;
            e.unchanged("behind the last", before, x -> x.right(behind), BAD);
        }
    }

    private static void rightOfEqualOnes() {
        e.says("then fewest FOLDS, then the first");
        MapFold x = Edges.sheetOf(14);
        Edges.lawOf(x, "0");
        e.due("two are fewer than three", x.right(-3), 2);
        e.due("the first", x.right(0) * 100 + x.right(1), 2010);
        MapFold y = Edges.sheetOf(14);
        Edges.lawOf(y, "n>1");
        e.due("less worn goes ahead of fewer folds", y.right(-3) * 10 + y.right(-2), 30);
        e.due("the first of those", y.right(0) * 10000 + y.right(1) * 100 + y.right(2), 101010);
        MapFold z = Edges.sheetOf(13);
        Edges.lawOf(z, "r?9;b-1");
        z.fold(1, 0);
        z.flat();
        e.due("fewest wrong goes ahead of all", z.right(-1), 0);
    }

    private static void windBounds() {
        e.says("WIND (nh: 1000 n and H): n times (1 .. 20), H (0 .. 100). BAD");
        for (int nh = -1200; nh <= 23000; nh++) {
            boolean taken = nh >= 1000 && nh / 1000 <= 20 && nh % 1000 <= 100;
            if (taken || nh % 1000 > 95 && nh % 1000 < 105 || nh % 1000 > 994 || nh % 50 == 0 || nh < 1000) {
                e.due("nh " + nh, new MapFold().wind(1, nh, 0), taken ? 0 : BAD);
            }
        }
        for (int nh : new int[] {0, 100, 999, 1101, 1999, 20101, 21000, 21100, -1, -1000, -1100, Edges.LEAST, Edges.MOST}) {
            e.unchanged("nh " + nh, Edges.RICH, x -> x.wind(1, nh, 0), BAD);
        }
    }

    private static void windWhats() {
        e.says("the mean of WRONG (what 0), of WORN (1). BAD");
        for (int what : new int[] {-1, 2, Edges.LEAST, Edges.MOST}) {
            e.unchanged("what " + what, Edges.RICH, x -> x.wind(1, 1000, what), BAD);
            e.unchanged("both", Edges.RICH, x -> x.wind(1, 21101, what), BAD);
        }
    }

    /** A strip of two, its crease bent as a valley, and a plan of bending it so once more. */
    private static final Edges.Use VALLEY = x -> {
        x.sheet(12);
        x.fold(1, 0);
        x.flat();
        return x.plan(1, 0);
    };

    private static void windAtTheEnds() {
        e.says("if (z >>> 8) % 100 is below H: at H 0 never, at H 100 always");
        for (int seed : new int[] {0, 1, -1, 12345, Edges.LEAST, Edges.MOST}) {
            for (int n = 1; n <= 20; n++) {
                int none = 1000 * n;
                int all = 1000 * n + 100;
                e.due("none is turned", Edges.made(VALLEY).wind(seed, none, 0), 0);
                e.due("none is turned: worn", Edges.made(VALLEY).wind(seed, none, 1), 1);
                e.due("all are turned", Edges.made(VALLEY).wind(seed, all, 0), 1);
                e.due("all are turned: worn", Edges.made(VALLEY).wind(seed, all, 1), 3);
            }
        }
        for (int way = 0; way < 8; way++) {
            MapFold x = Edges.sheetOf(22);
            x.fold(1, way);
            x.flat();
            x.plan(1, way);
            e.due("the other of over and under, way " + way, x.wind(1, 1100, 0), 2);
            x.plan(0, 0);
            x.plan(1, way ^ 1);
            e.due("and back, way " + way, x.wind(1, 1100, 0), 0);
        }
    }

    private static int next(int z) {
        return z * 1103515245 + 12345;
    }

    private static int drawn(int z) {
        return (z >>> 8) % 100;
    }

    private static void windThreshold() {
        e.says("if (z >>> 8) % 100 is below H, its WAY is the other");
        for (int seed = -40; seed < 40; seed++) {
            int value = drawn(next(seed));
            e.due("H as drawn", Edges.made(VALLEY).wind(seed, 1000 + value, 0), 0);
            e.due("H as drawn and 1", Edges.made(VALLEY).wind(seed, 1001 + value, 0), 1);
        }
        for (int seed : new int[] {Edges.LEAST, Edges.MOST, 1 << 30, -(1 << 30)}) {
            int value = drawn(next(seed));
            e.due("z wraps: H as drawn", Edges.made(VALLEY).wind(seed, 1000 + value, 0), 0);
            e.due("z wraps: H as drawn and 1", Edges.made(VALLEY).wind(seed, 1001 + value, 0), 1);
        }
    }

    private static void windDraws() {
        e.says("n times by a SEED: THE PLAN (its CAN FOLDS), ahead of each FOLD z = z * 1103515245 + 12345");
        for (int seed = 1; seed < 30; seed++) {
            MapFold x = Edges.sheetOf(13);
            // Both creases are valleys; the third and fourth fold of the plan can't be done, and draw nothing.
            x.fold(1, 0);
            x.fold(1, 0);
            for (int i = 0; i < 4; i++) {
                x.plan(1, 0);
            }
            int z = seed;
            int wrong = 0;
            for (int i = 0; i < 10; i++) {
                z = next(z);
                wrong += drawn(z) < 50 ? 1 : 0;
            }
            e.due("seed " + seed, x.wind(seed, 5050, 0), wrong / 5);
            e.due("worn by seed " + seed, x.wind(seed, 5050, 1), (10 + 2 * wrong) / 5);
        }
    }

    private static void windMeanIsCut() {
        e.says("the mean (cut)");
        for (int seed = 1; seed < 60; seed++) {
            for (int n = 1; n <= 20; n++) {
                int z = seed;
                int wrong = 0;
                for (int i = 0; i < n; i++) {
                    z = next(z);
                    wrong += drawn(z) < 60 ? 1 : 0;
                }
                MapFold x = Edges.made(VALLEY);
                e.due("wrong, " + n + " times by " + seed, x.wind(seed, 1000 * n + 60, 0), wrong / n);
                e.due("worn, " + n + " times by " + seed, x.wind(seed, 1000 * n + 60, 1), (n + 2 * wrong) / n);
            }
        }
    }

    private static void windOfNone() {
        e.says("WIND of a plan of none, or of one that can't be done: 0");
        e.unchanged("no plan", Edges.NEW, x -> x.wind(1, 20100, 1), 0);
        Edges.Use cannot = x -> {
            x.plan(7, 0);
            return x.plan(1, 0);
        };
        e.unchanged("the first can't", cannot, x -> x.wind(1, 20100, 1), 0);
        e.unchanged("one field", x -> x.sheet(11) + x.plan(1, 0), x -> x.wind(1, 20100, 0), 0);
    }
}
