/** The edges of promises 1 to 3 and 6 to 12: the sheet, its limit, folds, creases and piles. */
public final class SheetEdgesTest {
    private static final int BAD = Edges.BAD, NOT = Edges.NOT, FULL = Edges.FULL, STATE = Edges.STATE;
    private static final int[] FAR = {Edges.LEAST, Edges.LEAST + 1, -1000, -100, 1000, Edges.MOST - 1, Edges.MOST};
    private static final Edges e = new Edges();

    public static void main(String[] args) {
        newIsEmpty();
        newHoldsNothing();
        sheetBounds();
        sheetIsNew();
        sheetLeavesTheRest();
        limitBounds();
        tornFromLimitOn();
        tornAtTheEnds();
        foldWays();
        foldLines();
        foldLinesOfTheShape();
        foldBadAheadOfNot();
        foldOfNothingMore();
        foldBeyondTheEnd();
        bentNotTornAhead();
        bentBecomesTorn();
        bentNothing();
        wrongOnlyAgainstABend();
        wornAtMost();
        flatCounts();
        creaseBounds();
        creaseAtFaces();
        shapeBounds();
        whereBounds();
        pileBounds();
        pileHeights();
        facesAndHeights();
        ledBounds();
        calls512();
        e.end("the sheet's edges hold");
    }

    private static void newIsEmpty() {
        e.says("Two rows, four columns, flat, new.");
        MapFold x = new MapFold();
        e.due("rows", x.shape(0), 2);
        e.due("columns", x.shape(1), 4);
        e.due("highest pile", x.shape(2), 1);
        for (int field = 0; field < 8; field++) {
            e.due("row of " + field, x.where(field, 0), field / 4);
            e.due("column of " + field, x.where(field, 1), field % 4);
            e.due("below " + field, x.where(field, 2), 0);
            e.due("face of " + field, x.where(field, 3), 0);
        }
        for (int what = 0; what < 3; what++) {
            e.due("led " + what, x.led(what), 0);
            for (int fk : new int[] {0, 10, 20, 40, 50, 60, 1, 11, 21, 31}) {
                e.due("crease " + fk + ", " + what, x.crease(fk, what), 0);
            }
        }
        e.due("fields", x.count(0), 8);
        for (int what = 1; what < 6; what++) {
            e.due("count " + what, x.count(what), 0);
        }
    }

    private static void newHoldsNothing() {
        e.says("A new object has no image, no change, no trace, no body, no plan, nothing on its shelves.");
        e.unchanged("back", Edges.NEW, MapFold::back, STATE);
        e.unchanged("undo", Edges.NEW, MapFold::undo, STATE);
        e.unchanged("redo", Edges.NEW, MapFold::redo, STATE);
        e.unchanged("an empty tape", Edges.NEW, MapFold::law, -100);
        e.unchanged("trace", Edges.NEW, x -> x.trace(0), BAD);
        e.unchanged("act", Edges.NEW, x -> x.act(0, 0, 7), 0);
        e.unchanged("emptying the plan", Edges.NEW, x -> x.plan(0, 0), 0);
        e.unchanged("the limit", Edges.NEW, x -> x.limit(20), 20);
        for (int what = 0; what < 4; what++) {
            int w = what;
            e.unchanged("cost " + what, Edges.NEW, x -> x.cost(w), 0);
        }
        for (int shelf = 0; shelf < 6; shelf++) {
            int s = shelf;
            e.unchanged("shelf " + shelf, Edges.NEW, x -> x.put(s, 0, 1), Edges.NOTHING_THERE);
            e.unchanged("shelf " + shelf, Edges.NEW, x -> x.taken(s, 0), Edges.NOTHING_THERE);
        }
    }

    private static boolean isSheet(int rc) {
        return rc >= 11 && rc <= 48 && rc % 10 >= 1 && rc % 10 <= 8;
    }

    private static void sheetBounds() {
        e.says("THE SHEET has R rows and C columns (1 .. 4 and 1 .. 8); rc: 10 R and C. BAD");
        for (int rc = -60; rc <= 130; rc++) {
            MapFold x = new MapFold();
            e.due("sheet " + rc, x.sheet(rc), isSheet(rc) ? 24 : BAD);
            e.due("fields behind " + rc, x.count(0), isSheet(rc) ? rc / 10 * (rc % 10) : 8);
            e.due("what it has behind " + rc, x.sheet(11), isSheet(rc) ? rc : 24);
        }
        for (int rc : new int[] {-48, -11, -1, 0, 1, 8, 9, 10, 19, 20, 29, 30, 39, 40, 49, 50, 51, 58, 111, 148}) {
            e.unchanged("sheet " + rc, Edges.RICH, x -> x.sheet(rc), BAD);
        }
        for (int rc : FAR) {
            e.unchanged("sheet " + rc, Edges.RICH, x -> x.sheet(rc), BAD);
        }
    }

    private static void sheetIsNew() {
        e.says("THE SHEET is new, FLAT (LED is 0, too)");
        Edges.Use worn = x -> {
            x.sheet(48);
            x.limit(1);
            x.fold(4, 0);
            x.fold(2, 4);
            x.limit(9);
            x.flat();
            x.fold(4, 1);
            return x.limit(1);
        };
        for (int rc : new int[] {48, 11, 18, 41, 24}) {
            MapFold x = Edges.made(worn);
            e.due("wrong ahead", x.led(1), 4);
            e.due("the same sheet, too, is new", x.sheet(rc), 48);
            for (int what = 0; what < 3; what++) {
                e.due("led " + what + " of " + rc, x.led(what), 0);
            }
            e.due("highest pile of " + rc, x.shape(2), 1);
            e.due("rows of " + rc, x.shape(0), rc / 10);
            e.due("columns of " + rc, x.shape(1), rc % 10);
            x.sheet(48);
            for (int fk = 0; fk < 310; fk++) {
                e.due("crease " + fk, Math.max(0, x.crease(fk, 0)), 0);
            }
            e.due("last bend", x.crease(30, 1) + x.crease(81, 1), 0);
        }
    }

    private static void sheetLeavesTheRest() {
        e.says("THE SHEET is new: what is no part of it stays");
        MapFold x = Edges.made(Edges.RICH);
        x.sheet(11);
        e.due("plan", x.count(1), 4);
        e.due("tape", x.count(2), 2);
        e.due("changes", x.count(3), 2);
        e.due("bodies", x.count(4), 8);
        e.due("bodies that ran", x.count(5), 11);
        e.due("image", x.back(), 3);
        e.due("R and C by the image", x.sheet(11), 34);
        e.due("limit", x.limit(25), 25);
        e.due("redo", x.redo(), 0);
        e.due("a shelf", x.element(3, 1), Long.MAX_VALUE);
    }

    private static void limitBounds() {
        e.says("LIMIT (1 .. 99): LIMIT becomes v: what it was. BAD");
        for (int v = -30; v <= 260; v++) {
            MapFold x = new MapFold();
            boolean taken = v >= 1 && v <= 99;
            e.due("limit " + v, x.limit(v), taken ? 20 : BAD);
            e.due("the limit behind " + v, x.limit(50), taken ? v : 20);
        }
        for (int v : new int[] {-1, 0, 100, 101, 256, 257, -255}) {
            e.unchanged("limit " + v, Edges.RICH, x -> x.limit(v), BAD);
        }
        for (int v : FAR) {
            e.unchanged("limit " + v, Edges.RICH, x -> x.limit(v), BAD);
        }
        e.unchanged("the limit that it has", Edges.RICH, x -> x.limit(25), 25);
    }

    private static void tornFromLimitOn() {
        e.says("TORN (WORN as much as LIMIT or more)");
        MapFold x = Edges.sheetOf(12);
        Edges.lawOf(x, "5");
        x.fold(1, 0);
        int[] limits = {1, 4, 5, 6, 99};
        for (int limit : limits) {
            x.limit(limit);
            e.due("worn 5 by limit " + limit, x.crease(0, 2), limit <= 5 ? 1 : 0);
            e.due("led by limit " + limit, x.led(2), limit <= 5 ? 1 : 0);
        }
    }

    private static MapFold wornBy(int worn) {
        MapFold x = Edges.sheetOf(12);
        x.limit(99);
        Edges.lawOf(x, "9");
        for (int left = worn; left > 0; left -= 9) {
            if (left < 9) {
                Edges.lawOf(x, String.valueOf(left));
            }
            x.flat();
            x.fold(1, 0);
        }
        x.flat();
        Edges.lawOf(x, "9");
        return x;
    }

    private static void tornAtTheEnds() {
        e.says("TORN, at the ends of WORN (0 .. 99) and LIMIT (1 .. 99)");
        MapFold none = Edges.sheetOf(12);
        none.limit(1);
        e.due("worn 0, limit 1", none.crease(0, 2), 0);
        MapFold x = wornBy(98);
        e.due("worn", x.crease(0, 0), 98);
        e.due("worn 98, limit 99", x.crease(0, 2), 0);
        e.due("still bent", x.fold(1, 0), 1);
        e.due("worn", x.crease(0, 0), 99);
        e.due("worn 99, limit 99", x.crease(0, 2), 1);
        e.due("led", x.led(2), 1);
        x.flat();
        e.due("bent no more", x.fold(1, 0), 0);
        e.due("worn", x.crease(0, 0), 99);
    }

    private static void foldWays() {
        e.says("BAD (WAY 0 .. 7)");
        for (int way = -3; way <= 11; way++) {
            MapFold x = Edges.sheetOf(48);
            e.due("way " + way, x.fold(1, way), way < 0 || way > 7 ? BAD : way < 4 ? 4 : 8);
            e.due("folds behind it", x.led(0), way < 0 || way > 7 ? 0 : 1);
        }
        for (int way : new int[] {-1, 8, 9, 16, -8}) {
            e.unchanged("way " + way, Edges.RICH, x -> x.fold(1, way), BAD);
        }
        for (int way : FAR) {
            e.unchanged("way " + way, Edges.RICH, x -> x.fold(1, way), BAD);
        }
    }

    private static void foldLines() {
        e.says("the LINE behind the k-th column (1 .. c - 1), or row; NOT: there is no such LINE");
        for (int rows = 1; rows <= 4; rows++) {
            for (int cols = 1; cols <= 8; cols++) {
                for (int way = 0; way < 8; way++) {
                    for (int line = -1; line <= 9; line++) {
                        int span = way < 4 ? cols : rows;
                        boolean there = line >= 1 && line < span;
                        MapFold x = Edges.sheetOf(10 * rows + cols);
                        e.due("line " + line + ", way " + way + " of " + rows + " by " + cols, x.fold(line, way),
                            there ? rows * cols / span : NOT);
                        e.due("folds", x.led(0), there ? 1 : 0);
                        e.due("columns and rows", x.shape(way < 4 ? 1 : 0),
                            there ? Math.max(line, span - line) : span);
                        e.due("the others", x.shape(way < 4 ? 0 : 1), way < 4 ? rows : cols);
                    }
                }
            }
        }
        for (int line : FAR) {
            e.unchanged("line " + line, Edges.RICH, x -> x.fold(line, 0), NOT);
            e.unchanged("line " + line, Edges.RICH, x -> x.fold(line, 7), NOT);
        }
    }

    private static void foldLinesOfTheShape() {
        e.says("the LINE is one of THE SHAPE, not of THE SHEET");
        Edges.Use half = x -> {
            x.sheet(48);
            return x.fold(4, 2);
        };
        e.due("line 3 of four", Edges.made(half).fold(3, 0), 8);
        e.unchanged("line 4 of four", half, x -> x.fold(4, 0), NOT);
        e.unchanged("line 0 of four", half, x -> x.fold(0, 0), NOT);
        e.due("row line 3 is there", Edges.made(half).fold(3, 4), 8);
        e.unchanged("row line 4", half, x -> x.fold(4, 4), NOT);
        Edges.Use one = x -> {
            x.sheet(22);
            x.fold(1, 0);
            return x.fold(1, 4);
        };
        Edges.Use least = x -> x.sheet(11);
        for (int way = 0; way < 8; way++) {
            int w = way;
            e.unchanged("one pile, way " + way, one, x -> x.fold(1, w), NOT);
            e.unchanged("one field, way " + way, least, x -> x.fold(1, w), NOT);
        }
    }

    private static void foldBadAheadOfNot() {
        e.says("of several the one named first: BAD, NOT");
        for (int line : new int[] {0, -1, 8, Edges.LEAST, Edges.MOST}) {
            for (int way : new int[] {-1, 8, Edges.LEAST, Edges.MOST}) {
                e.unchanged("line " + line + ", way " + way, Edges.RICH, x -> x.fold(line, way), BAD);
            }
        }
    }

    private static void foldOfNothingMore() {
        e.says("what is answered so changes nothing: a fold that was refused is no fold");
        MapFold x = new MapFold();
        x.fold(4, 0);
        x.fold(2, 4);
        x.fold(1, 8);
        e.due("folds", x.led(0), 0);
        e.due("piles", x.flat(), 8);
    }

    private static void foldBeyondTheEnd() {
        e.says("as a whole over or under what lies there (nothing may). THE SHAPE is then what there is of PILES");
        // LINE, WAY, then the lowest and the topmost field of the first pile.
        int[][] first = {{2, 0, 2, 1}, {2, 2, 0, 3}, {3, 0, 3, 2}, {3, 2, 0, 0}, {1, 0, 1, 0}, {1, 2, 3, 3}};
        for (int[] f : first) {
            MapFold x = Edges.sheetOf(14);
            x.fold(f[0], f[1]);
            e.due("the lowest of the first pile by " + f[0] + ", " + f[1], x.pile(0, 0), f[2]);
            e.due("the topmost of it", x.pile(0, -1), f[3]);
        }
        for (int line = 1; line < 8; line++) {
            for (int way = 0; way < 4; way++) {
                MapFold x = Edges.sheetOf(18);
                x.fold(line, way);
                int sum = 0;
                for (int col = 0; col < x.shape(1); col++) {
                    sum += x.pile(col, -2);
                }
                e.due("all fields in piles", sum, 8);
                int twos = Math.min(line, 8 - line);
                e.due("piles", x.flat(), 8 - twos);
            }
        }
    }

    private static void bentNotTornAhead() {
        e.says("not TORN ahead");
        MapFold x = Edges.sheetOf(22);
        x.fold(1, 0);
        x.fold(1, 4);
        x.flat();
        Edges.lawOf(x, "n");
        x.limit(1);
        e.due("torn now", x.led(2), 4);
        e.due("all are torn: none is bent", x.fold(1, 1), 0);
        e.due("columns fold all the same", x.shape(1), 1);
        e.due("it is a fold", x.led(0), 3);
        e.due("none is wrong", x.led(1), 0);
        e.due("the last bend stays", x.crease(0, 1), 1);
        e.due("worn no more", x.crease(0, 0), 1);
        MapFold y = Edges.sheetOf(13);
        y.fold(1, 0);
        y.flat();
        y.limit(1);
        Edges.lawOf(y, "n*4");
        y.fold(2, 0);
        y.flat();
        e.due("worn as limit minus one ahead: bent", y.crease(10, 0), 4);
        e.due("worn as limit ahead: not bent", y.crease(0, 0), 1);
    }

    private static void bentBecomesTorn() {
        e.says("BENT .. not TORN ahead: what becomes TORN by a FOLD is bent by it");
        MapFold x = Edges.sheetOf(14);
        x.limit(1);
        e.due("first", x.fold(2, 0), 1);
        e.due("torn", x.led(2), 1);
        e.due("the others are still bent", x.fold(1, 0), 2);
        e.due("torn", x.led(2), 3);
        MapFold y = Edges.sheetOf(14);
        y.limit(1);
        y.fold(1, 0);
        y.flat();
        Edges.lawOf(y, "n");
        y.fold(2, 0);
        y.fold(1, 0);
        e.due("n counts those bent alone", y.crease(20, 0), 1);
        e.due("the torn one stays", y.crease(0, 0), 1);
    }

    private static void bentNothing() {
        e.says("THE LAW .. none: 0; it is BENT all the same");
        MapFold x = Edges.sheetOf(12);
        Edges.lawOf(x, "0?9");
        e.due("bent", x.fold(1, 0), 1);
        e.due("worn", x.crease(0, 0), 0);
        e.due("last", x.crease(0, 1), 1);
        x.flat();
        e.due("bent", x.fold(1, 1), 1);
        e.due("wrong", x.led(1), 1);
        e.due("last", x.crease(0, 1), 2);
    }

    private static void wrongOnlyAgainstABend() {
        e.says("LAST bend (0 none); WRONG: its LAST bend was the other one");
        for (int first = 0; first < 2; first++) {
            for (int second = 0; second < 2; second++) {
                MapFold x = Edges.sheetOf(12);
                x.fold(1, first);
                e.due("none ahead: not wrong", x.led(1), 0);
                e.due("worn by 1", x.crease(0, 0), 1);
                x.flat();
                x.fold(1, second);
                e.due("wrong, " + first + " then " + second, x.led(1), first == second ? 0 : 1);
                e.due("worn by 1 and 2 r", x.crease(0, 0), first == second ? 2 : 4);
            }
        }
    }

    private static void wornAtMost() {
        e.says("it is WORN by THE LAW more (99 at most)");
        for (int ahead = 88; ahead < 99; ahead++) {
            MapFold x = wornBy(ahead);
            e.due("worn ahead", x.crease(0, 0), ahead);
            x.plan(1, 0);
            e.due("what a plan wears", x.cost(1), Math.min(9, 99 - ahead));
            x.fold(1, 0);
            e.due("worn behind " + ahead, x.crease(0, 0), Math.min(99, ahead + 9));
        }
    }

    private static void flatCounts() {
        e.says("It is FLAT again (CREASES as they are): how many PILES there were.");
        for (int rc = 11; rc <= 48; rc++) {
            if (isSheet(rc)) {
                int size = rc;
                e.unchanged("flat already", x -> x.sheet(size), MapFold::flat, rc / 10 * (rc % 10));
            }
        }
        MapFold x = Edges.sheetOf(48);
        int[][] folds = {{4, 0}, {2, 4}, {2, 0}, {1, 4}, {1, 0}};
        for (int[] f : folds) {
            x.fold(f[0], f[1]);
        }
        e.due("highest", x.shape(2), 32);
        e.due("one pile", x.flat(), 1);
        e.due("flat", x.flat(), 32);
        e.due("folds stay", x.led(0), 5);
        e.due("creases stay", x.crease(30, 0), 1);
    }

    private static void creaseBounds() {
        e.says("Of a CREASE (fk: 10 times the lesser FIELD, and 0, 1). BAD");
        for (int rc : new int[] {11, 12, 21, 18, 41, 24, 33, 48}) {
            int rows = rc / 10;
            int cols = rc % 10;
            MapFold x = Edges.sheetOf(rc);
            for (int fk = -25; fk < 345; fk++) {
                int field = fk / 10;
                boolean there = fk >= 0 && field < rows * cols
                    && (fk % 10 == 0 ? field % cols < cols - 1 : fk % 10 == 1 && field / cols < rows - 1);
                e.due("crease " + fk + " of " + rc, x.crease(fk, 0), there ? 0 : BAD);
            }
        }
        for (int fk : FAR) {
            e.unchanged("crease " + fk, Edges.RICH, x -> x.crease(fk, 0), BAD);
        }
        e.unchanged("k 2", Edges.RICH, x -> x.crease(2, 0), BAD);
        e.unchanged("no next column", Edges.RICH, x -> x.crease(30, 0), BAD);
        e.unchanged("no next row", Edges.RICH, x -> x.crease(81, 0), BAD);
        e.unchanged("the last field", Edges.RICH, x -> x.crease(110, 0), BAD);
    }

    private static void creaseAtFaces() {
        e.says("WORN (what 0), LAST (1), TORN (2: 1, 0). BAD");
        e.unchanged("worn", Edges.RICH, x -> x.crease(10, 0), 4);
        e.unchanged("last", Edges.RICH, x -> x.crease(10, 1), 2);
        e.unchanged("torn", Edges.RICH, x -> x.crease(10, 2), 0);
        e.unchanged("what -1", Edges.RICH, x -> x.crease(10, -1), BAD);
        e.unchanged("what 3", Edges.RICH, x -> x.crease(10, 3), BAD);
        for (int what : FAR) {
            e.unchanged("what " + what, Edges.RICH, x -> x.crease(10, what), BAD);
        }
        e.unchanged("both", Edges.RICH, x -> x.crease(2, 3), BAD);
    }

    private static void shapeBounds() {
        e.says("THE SHAPE: rows (what 0), columns (1), the highest PILE (2). BAD");
        e.unchanged("rows", Edges.RICH, x -> x.shape(0), 3);
        e.unchanged("columns", Edges.RICH, x -> x.shape(1), 1);
        e.unchanged("highest", Edges.RICH, x -> x.shape(2), 4);
        e.unchanged("what -1", Edges.RICH, x -> x.shape(-1), BAD);
        e.unchanged("what 3", Edges.RICH, x -> x.shape(3), BAD);
        for (int what : FAR) {
            e.unchanged("what " + what, Edges.RICH, x -> x.shape(what), BAD);
        }
        MapFold uneven = Edges.sheetOf(13);
        uneven.fold(1, 0);
        e.due("the highest, not the first or last", uneven.shape(2) * 10 + uneven.pile(1, -2), 21);
    }

    private static void whereBounds() {
        e.says("Of a FIELD now: the row (what 0), the column (1), how many are below it (2), its face (3). BAD");
        for (int rc : new int[] {11, 18, 41, 24, 48}) {
            int fields = rc / 10 * (rc % 10);
            MapFold x = Edges.sheetOf(rc);
            for (int what = -2; what < 6; what++) {
                boolean there = what >= 0 && what < 4;
                e.due("the last field of " + rc + ", " + what, x.where(fields - 1, what),
                    what == 0 ? rc / 10 - 1 : what == 1 ? rc % 10 - 1 : there ? 0 : BAD);
                e.due("the first field", x.where(0, what), there ? 0 : BAD);
                e.due("the one behind the last", x.where(fields, what), BAD);
                e.due("the one ahead of the first", x.where(-1, what), BAD);
            }
        }
        for (int far : FAR) {
            e.unchanged("field " + far, Edges.RICH, x -> x.where(far, 0), BAD);
            e.unchanged("what " + far, Edges.RICH, x -> x.where(0, far), BAD);
        }
        e.unchanged("field 12 of 12", Edges.RICH, x -> x.where(12, 0), BAD);
        e.unchanged("what 4", Edges.RICH, x -> x.where(11, 4), BAD);
    }

    private static void pileBounds() {
        e.says("Of a PILE (rc: 10 times its row, and its column, from 0). BAD");
        for (int rc : new int[] {11, 18, 41, 24, 48}) {
            MapFold x = Edges.sheetOf(rc);
            for (int at = -15; at < 110; at++) {
                boolean there = at >= 0 && at / 10 < rc / 10 && at % 10 < rc % 10;
                e.due("pile " + at + " of " + rc, x.pile(at, 0), there ? at / 10 * (rc % 10) + at % 10 : BAD);
                e.due("how many", x.pile(at, -2), there ? 1 : BAD);
            }
        }
        for (int at : FAR) {
            e.unchanged("pile " + at, Edges.RICH, x -> x.pile(at, -1), BAD);
        }
        e.unchanged("no column 1 now", Edges.RICH, x -> x.pile(1, -2), BAD);
        e.unchanged("no row 3", Edges.RICH, x -> x.pile(30, -2), BAD);
        e.unchanged("neither", Edges.RICH, x -> x.pile(31, -3), BAD);
    }

    private static void pileHeights() {
        e.says("the i-th FIELD from below; i -1: the topmost; i -2: how many. BAD");
        MapFold x = Edges.sheetOf(14);
        x.fold(3, 0);
        // Field 2 is over field 3; 1 and 0 lie alone.
        int[][] due = {{-3, BAD, BAD}, {-2, 2, 1}, {-1, 2, 0}, {0, 3, 0}, {1, 2, BAD}, {2, BAD, BAD}};
        for (int[] d : due) {
            e.due("the first pile, " + d[0], x.pile(0, d[0]), d[1]);
            e.due("the last pile, " + d[0], x.pile(2, d[0]), d[2]);
        }
        e.unchanged("i 3 of four", Edges.RICH, y -> y.pile(0, 3), Edges.made(Edges.RICH).pile(0, -1));
        e.unchanged("i 4 of four", Edges.RICH, y -> y.pile(0, 4), BAD);
        e.unchanged("i -3", Edges.RICH, y -> y.pile(0, -3), BAD);
        for (int i : FAR) {
            e.unchanged("i " + i, Edges.RICH, y -> y.pile(0, i), BAD);
        }
    }

    private static void facesAndHeights() {
        e.says("each with its face up (0) or down (1) .. upside down (the lowest on top, faces changed)");
        MapFold x = Edges.sheetOf(33);
        x.fold(1, 4);
        x.fold(1, 0);
        // The rows of piles are 4 and 2, then 2 and 1 fields high.
        int[] heights = {4, 2, 2, 1};
        for (int i = 0; i < 4; i++) {
            e.due("height " + i, x.pile(10 * (i / 2) + i % 2, -2), heights[i]);
        }
        int[][] due = {{0, 0, 0, 2, 0}, {1, 0, 0, 1, 1}, {2, 0, 1, 1, 1}, {3, 0, 0, 3, 1}, {4, 0, 0, 0, 0}, {5, 0, 1, 0, 0},
            {6, 1, 0, 1, 1}, {7, 1, 0, 0, 0}, {8, 1, 1, 0, 0}};
        for (int[] d : due) {
            for (int what = 0; what < 4; what++) {
                e.due("field " + d[0] + ", " + what, x.where(d[0], what), d[1 + what]);
            }
        }
        x.fold(1, 7);
        x.fold(1, 2);
        e.due("highest", x.shape(2), 9);
        for (int i = 0; i < 9; i++) {
            int field = x.pile(0, i);
            e.due("below it", x.where(field, 2), i);
            e.due("its face is up or down", x.where(field, 3) & ~1, 0);
        }
        e.due("twice turned", x.where(8, 3), 0);
    }

    private static void ledBounds() {
        e.says("LED: FOLDS (what 0), WRONG (1), TORN (2). BAD");
        e.unchanged("folds", Edges.RICH, x -> x.led(0), 4);
        e.unchanged("wrong", Edges.RICH, x -> x.led(1), 3);
        e.unchanged("torn", Edges.RICH, x -> x.led(2), 0);
        e.unchanged("what -1", Edges.RICH, x -> x.led(-1), BAD);
        e.unchanged("what 3", Edges.RICH, x -> x.led(3), BAD);
        for (int what : FAR) {
            e.unchanged("what " + what, Edges.RICH, x -> x.led(what), BAD);
        }
        MapFold x = Edges.made(Edges.RICH);
        e.due("wrong ones stay led when flat", x.flat() * 10 + x.led(1), 33);
    }

    private static void calls512() {
        e.says("An object is used for at most 512 calls after it has been made");
        MapFold x = Edges.sheetOf(48);
        x.limit(99);
        Edges.lawOf(x, "0");
        int folds = 0;
        // Four calls so far; 2 * 253 more, then one.
        while (folds < 253) {
            x.fold(4, 0);
            x.flat();
            folds++;
        }
        x.shape(0);
        e.due("the 512th call", x.led(0), folds);
        MapFold full = new MapFold();
        for (int i = 0; i < 511; i++) {
            full.feed('1');
        }
        e.due("a full tape at the 512th", full.feed('1'), FULL);
    }
}
