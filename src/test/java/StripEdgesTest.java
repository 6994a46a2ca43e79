/** The edges of promises 22 to 30: strips, the image, and changes that are undone and done again. */
public final class StripEdgesTest {
    private static final int BAD = Edges.BAD, NOT = Edges.NOT, STATE = Edges.STATE;
    private static final int[] FAR = {Edges.LEAST, Edges.LEAST + 1, -1000, -10, 1000, Edges.MOST - 1, Edges.MOST};
    private static final int[] MANY = {0, 0, 2, 6, 16, 50, 144, 462};
    private static final Edges e = new Edges();

    public static void main(String[] args) {
        fieldsOfAStrip();
        orderDigits();
        orderFar();
        crossesFirst();
        crossesSides();
        ordersBounds();
        ordersAll();
        bendsRefused();
        bendsAtTheEnds();
        byBounds();
        byAll();
        withBounds();
        stripsChangeNothing();
        backWithoutAnImage();
        imageKeeps();
        imageOfTheLargest();
        imageOfTheLatest();
        imageLeavesTheRest();
        imageAtTheLimit();
        undoneNone();
        undoneForty();
        doneAgainNone();
        doneAgainAsLongAs();
        doneAgainBehindForty();
        undoTears();
        e.end("the strips' edges hold");
    }

    private static boolean isStrip(int n) {
        return n >= 2 && n <= 7;
    }

    /** The least order of n fields: 12, 123 and so on. */
    private static int rising(int n) {
        int order = 0;
        for (int digit = 1; digit <= n; digit++) {
            order = order * 10 + digit;
        }
        return order;
    }

    private static void fieldsOfAStrip() {
        e.says("A STRIP of n FIELDS (2 .. 7)");
        for (int n = -2; n <= 9; n++) {
            MapFold x = new MapFold();
            boolean taken = isStrip(n);
            int order = rising(Math.max(n, 0));
            e.due("crosses " + n, x.crosses(n, order), taken ? NOT : BAD);
            e.due("orders " + n, x.orders(n, -1), taken ? MANY[n] : BAD);
            e.due("bends " + n, Math.min(0, x.bends(n, order)), taken ? 0 : BAD);
            e.due("by " + n, Math.min(0, x.by(n, 0, 0)), taken ? 0 : BAD);
            e.due("with " + n, Math.min(0, x.with(n, 0)), taken ? 0 : BAD);
        }
        int[] wrong = {1, 0, 8, 9, -1, 33, 34, 35, 65, Edges.LEAST, Edges.MOST};
        for (int n : wrong) {
            e.unchanged("crosses " + n, Edges.RICH, x -> x.crosses(n, 12), BAD);
            e.unchanged("orders " + n, Edges.RICH, x -> x.orders(n, 0), BAD);
            e.unchanged("bends " + n, Edges.RICH, x -> x.bends(n, 12), BAD);
            e.unchanged("by " + n, Edges.RICH, x -> x.by(n, 0, 0), BAD);
            e.unchanged("with " + n, Edges.RICH, x -> x.with(n, 0), BAD);
        }
    }

    private static boolean isOrder(int n, int order) {
        String digits = String.valueOf(order);
        boolean each = digits.length() == n;
        for (int digit = 1; digit <= n; digit++) {
            each &= digits.indexOf('0' + digit) >= 0;
        }
        return each;
    }

    private static void orderDigits() {
        e.says("BAD (digits: each just once)");
        for (int n = 2; n <= 5; n++) {
            MapFold x = new MapFold();
            for (int order = -60; order < 70000; order++) {
                boolean taken = isOrder(n, order);
                e.due("an order of " + n + ": " + order, x.crosses(n, order) == BAD ? 0 : 1, taken ? 1 : 0);
                e.due("bends of an order of " + n + ": " + order, x.bends(n, order) == BAD ? 0 : 1, taken ? 1 : 0);
                if (order % 100 == 0) {
                    x = new MapFold();
                }
            }
        }
        int[] wrong = {0, 1, 7654320, 7654322, 7654328, 6654321, 765432, 76543210, 17654321, 1234566, 1234568, 1234560,
            -7654321, -1234567, 11111111, 8765432};
        for (int order : wrong) {
            e.unchanged("crosses 7, " + order, Edges.RICH, x -> x.crosses(7, order), BAD);
            e.unchanged("bends 7, " + order, Edges.RICH, x -> x.bends(7, order), BAD);
        }
        e.unchanged("the least", Edges.RICH, x -> x.crosses(7, 1234567), NOT);
        e.unchanged("the highest", Edges.RICH, x -> x.crosses(7, 7654321), NOT);
        e.unchanged("one less", Edges.RICH, x -> x.crosses(7, 1234566), BAD);
        e.unchanged("one more", Edges.RICH, x -> x.crosses(7, 7654322), BAD);
    }

    private static void orderFar() {
        e.says("an ORDER: its FIELDS from below up, as digits (numbers and 1)");
        for (int n = 2; n <= 7; n++) {
            for (int order : FAR) {
                int many = n;
                e.unchanged("crosses " + n + ", " + order, Edges.NEW, x -> x.crosses(many, order), BAD);
                e.unchanged("bends " + n + ", " + order, Edges.NEW, x -> x.bends(many, order), BAD);
            }
            int shorter = rising(n) / 10;
            int many = n;
            e.unchanged("one digit too few of " + n, Edges.NEW, x -> x.crosses(many, shorter), BAD);
            if (n < 7) {
                int longer = rising(n + 1);
                e.unchanged("one digit too many of " + n, Edges.NEW, x -> x.crosses(many, longer), BAD);
            }
        }
    }

    private static void crossesFirst() {
        e.says("the first two such (by the lesser FIELD of the first, then of the other: 10 times, and)");
        int[][] due = {{2, 12, NOT}, {2, 21, NOT}, {3, 213, NOT}, {4, 1324, 2}, {4, 1243, NOT}, {4, 3142, 2},
            {4, 2413, 2}, {5, 24351, 13}, {5, 12345, NOT}, {5, 24135, 2}, {6, 152346, 4}, {6, 153624, 2},
            {6, 123546, 24}, {6, 125346, 13}, {7, 1234657, 35}, {7, 1324657, 2}, {7, 1234567, NOT}};
        for (int[] d : due) {
            e.unchanged("crosses " + d[0] + ", " + d[1], Edges.NEW, x -> x.crosses(d[0], d[1]), d[2]);
        }
    }

    /** By the document's words: of each just one field is between those of the other one. */
    private static int[] slowly(int n, int order) {
        String digits = String.valueOf(order);
        for (int i = 0; i < n - 1; i++) {
            for (int j = i + 1; j < n - 1; j++) {
                if ((j - i) % 2 == 0 && between(digits, i, j) == 1 && between(digits, j, i) == 1) {
                    return new int[] {i, j};
                }
            }
        }
        return null;
    }

    /** How many of the fields of crease j lie between those of crease i. */
    private static int between(String digits, int i, int j) {
        int low = Math.min(digits.indexOf('1' + i), digits.indexOf('2' + i));
        int high = Math.max(digits.indexOf('1' + i), digits.indexOf('2' + i));
        int sum = 0;
        for (int field = j; field <= j + 1; field++) {
            int at = digits.indexOf('1' + field);
            sum += at > low && at < high ? 1 : 0;
        }
        return sum;
    }

    private static void crossesSides() {
        e.says("two CREASES on one side (those between 0 and 1, 2 and 3, .. on the one, 1 and 2, 3 and 4, .. on the other)");
        for (int n = 2; n <= 7; n++) {
            permute(n, "", "1234567".substring(0, n));
        }
    }

    /** Every order of n, each with an object of its own. */
    private static void permute(int n, String laid, String left) {
        if (left.isEmpty()) {
            int order = Integer.parseInt(laid);
            int[] pairs = slowly(n, order);
            MapFold x = new MapFold();
            e.due("crosses " + order, x.crosses(n, order), pairs == null ? NOT : 10 * pairs[0] + pairs[1]);
            e.due("bends " + order, x.bends(n, order), pairs == null ? bitsOf(laid) : STATE);
        }
        for (int i = 0; i < left.length(); i++) {
            permute(n, laid + left.charAt(i), left.substring(0, i) + left.substring(i + 1));
        }
    }

    private static int bitsOf(String digits) {
        int bits = 0;
        for (int i = 0; i + 1 < digits.length(); i++) {
            boolean below = digits.indexOf('1' + i) < digits.indexOf('2' + i);
            bits |= below == (i % 2 == 0) ? 1 << i : 0;
        }
        return bits;
    }

    private static void ordersBounds() {
        e.says("HOW MANY ORDERS of n cross nothing (i -1), the i-th. BAD (none such)");
        for (int n = 2; n <= 7; n++) {
            int many = n;
            int last = MANY[n] - 1;
            e.unchanged("how many of " + n, Edges.NEW, x -> x.orders(many, -1), MANY[n]);
            e.unchanged("the first of " + n, Edges.NEW, x -> x.orders(many, 0), rising(n));
            e.unchanged("the last of " + n, Edges.NEW, x -> x.orders(many, last), 7654321 % (int) Math.pow(10, n));
            e.unchanged("behind the last of " + n, Edges.NEW, x -> x.orders(many, last + 1), BAD);
            e.unchanged("-2 of " + n, Edges.NEW, x -> x.orders(many, -2), BAD);
            for (int i : FAR) {
                e.unchanged("i " + i + " of " + n, Edges.NEW, x -> x.orders(many, i), BAD);
            }
        }
    }

    private static void ordersAll() {
        e.says("the i-th (by rows of digits)");
        for (int n = 2; n <= 7; n++) {
            int before = 0;
            for (int i = 0; i < MANY[n]; i++) {
                MapFold x = new MapFold();
                int order = x.orders(n, i);
                e.due("it rises", order > before ? 1 : 0, 1);
                e.due("it crosses nothing", x.crosses(n, order), NOT);
                before = order;
            }
        }
        e.due("of 7 behind 2", sevenBehindTwo(), 1234567);
    }

    private static int sevenBehindTwo() {
        MapFold x = new MapFold();
        x.orders(2, -1);
        x.crosses(2, 21);
        return x.orders(7, 0);
    }

    private static void bendsRefused() {
        e.says("BENDS of an ORDER. BAD; STATE: it crosses");
        e.unchanged("it crosses", Edges.RICH, x -> x.bends(4, 1324), STATE);
        e.unchanged("it crosses on the other side", Edges.RICH, x -> x.bends(5, 24351), STATE);
        e.unchanged("a digit twice", Edges.RICH, x -> x.bends(4, 1224), BAD);
        e.unchanged("of 5 it is none, of 4 it crosses", Edges.RICH, x -> x.bends(5, 1324), BAD);
        e.unchanged("n 8 ahead of an order that crosses", Edges.RICH, x -> x.bends(8, 1324), BAD);
    }

    private static void bendsAtTheEnds() {
        e.says("bits: CREASE i is a valley, if FIELD i, face up, is below FIELD i + 1, or, face down, above it");
        int[][] due = {{2, 12, 1}, {2, 21, 0}, {3, 123, 1}, {3, 321, 2}, {3, 132, 3}, {3, 312, 3}, {3, 213, 0},
            {3, 231, 0}, {7, 1234567, 21}, {7, 7654321, 42}};
        for (int[] d : due) {
            e.unchanged("bends " + d[1], Edges.RICH, x -> x.bends(d[0], d[1]), d[2]);
        }
    }

    private static void byBounds() {
        e.says("BY told BENDS (bits 0 .. 63; below 2 to the n - 1): how many (what 0), the first (1; NOT). BAD");
        for (int n = 2; n <= 7; n++) {
            int many = n;
            int end = 1 << (n - 1);
            e.due("the lowest", new MapFold().by(n, 0, 0) > 0 ? 1 : 0, 1);
            e.due("the highest", new MapFold().by(n, end - 1, 0) > 0 ? 1 : 0, 1);
            int[] wrong = {-1, end, end + 1, 64, 65, -64, Edges.LEAST, Edges.MOST};
            for (int bends : wrong) {
                e.unchanged("bends " + bends + " of " + n, Edges.NEW, x -> x.by(many, bends, 0), BAD);
                e.unchanged("bends " + bends + " of " + n, Edges.NEW, x -> x.by(many, bends, 1), BAD);
            }
            int[] whats = {-1, 2, Edges.LEAST, Edges.MOST};
            for (int what : whats) {
                e.unchanged("what " + what + " of " + n, Edges.NEW, x -> x.by(many, 0, what), BAD);
            }
            e.unchanged("all wrong", Edges.NEW, x -> x.by(8, end, 2), BAD);
        }
        e.unchanged("63 of 7", Edges.RICH, x -> x.by(7, 63, 1) > 0 ? 1 : 0, 1);
        e.unchanged("64 of 7", Edges.RICH, x -> x.by(7, 64, 1), BAD);
        e.unchanged("63 of 6", Edges.RICH, x -> x.by(6, 63, 1), BAD);
    }

    private static void byAll() {
        e.says("BY told BENDS: how many such ORDERS; the first");
        for (int n = 2; n <= 6; n++) {
            for (int bends = 0; bends < 1 << (n - 1); bends++) {
                MapFold x = new MapFold();
                int sum = 0;
                int first = NOT;
                for (int i = 0; i < MANY[n]; i++) {
                    int order = x.orders(n, i);
                    if (bitsOf(String.valueOf(order)) == bends) {
                        sum++;
                        first = first == NOT ? order : first;
                    }
                }
                e.due("how many of " + n + " by " + bends, x.by(n, bends, 0), sum);
                e.due("the first of " + n + " by " + bends, x.by(n, bends, 1), first);
            }
        }
    }

    private static void withBounds() {
        e.says("WITH FIELD f on top: how many ORDERS. BAD");
        for (int n = 2; n <= 7; n++) {
            int many = n;
            int sum = 0;
            for (int f = 0; f < n; f++) {
                sum += new MapFold().with(n, f);
            }
            e.due("all of " + n, sum, MANY[n]);
            int[] wrong = {-1, n, n + 1, 8, Edges.LEAST, Edges.MOST};
            for (int f : wrong) {
                e.unchanged("field " + f + " of " + n, Edges.NEW, x -> x.with(many, f), BAD);
            }
        }
        e.unchanged("both wrong", Edges.RICH, x -> x.with(8, 8), BAD);
        e.unchanged("the first of two", Edges.RICH, x -> x.with(2, 0), 1);
        e.unchanged("the last of two", Edges.RICH, x -> x.with(2, 1), 1);
    }

    private static void stripsChangeNothing() {
        e.says("A STRIP is no part of THE SHEET");
        e.unchanged("crosses", Edges.RICH, x -> x.crosses(4, 1324), 2);
        e.unchanged("orders", Edges.RICH, x -> x.orders(7, 461), 7654321);
        e.unchanged("bends", Edges.RICH, x -> x.bends(3, 132), 3);
        e.unchanged("by", Edges.RICH, x -> x.by(3, 3, 0), 2);
        e.unchanged("with", Edges.RICH, x -> x.with(3, 1), 2);
    }

    private static void backWithoutAnImage() {
        e.says("All that it keeps is as in THE IMAGE: FOLDS so far. STATE: there is none.");
        e.unchanged("a new object", Edges.NEW, MapFold::back, STATE);
        Edges.Use busy = x -> {
            x.fold(2, 0);
            x.limit(3);
            return x.sheet(12) + x.fold(1, 0);
        };
        e.unchanged("a used one", busy, MapFold::back, STATE);
    }

    private static void imageKeeps() {
        e.says("AN IMAGE keeps THE SHAPE, CREASES, what LED tells (R, C, too)");
        Edges.Use before = x -> {
            x.sheet(34);
            x.fold(2, 0);
            x.flat();
            x.fold(2, 1);
            x.fold(1, 4);
            return x.image();
        };
        e.due("folds so far", before.on(new MapFold()), 3);
        e.same("back at once", Edges.state(Edges.both(before, MapFold::back)), Edges.state(before));
        Edges.Use other = x -> {
            before.on(x);
            x.sheet(48);
            x.fold(4, 0);
            x.fold(4, 0);
            return x.back();
        };
        e.due("folds so far", other.on(new MapFold()), 3);
        e.same("back from a larger sheet", Edges.state(other), Edges.state(before));
        Edges.Use less = x -> {
            before.on(x);
            x.sheet(11);
            x.back();
            return x.back();
        };
        e.due("twice", less.on(new MapFold()), 3);
        e.same("back from a smaller sheet", Edges.state(less), Edges.state(before));
        Edges.Use flat = x -> {
            before.on(x);
            x.flat();
            x.fold(3, 0);
            return x.back();
        };
        e.same("back from another shape", Edges.state(flat), Edges.state(before));
        e.due("an image of a new object", new MapFold().image(), 0);
    }

    private static void imageOfTheLargest() {
        e.says("AN IMAGE keeps .. CREASES: each of them, of the largest sheet, too");
        Edges.Use before = x -> {
            x.sheet(48);
            x.fold(7, 0);
            x.flat();
            x.fold(7, 1);
            x.flat();
            x.fold(3, 7);
            return x.image();
        };
        Edges.Use other = x -> {
            before.on(x);
            x.flat();
            x.fold(7, 2);
            x.fold(3, 4);
            x.sheet(48);
            return x.back();
        };
        e.due("folds so far", other.on(new MapFold()), 3);
        e.same("back", Edges.state(other), Edges.state(before));
    }

    private static void imageOfTheLatest() {
        e.says("AN IMAGE is kept: FOLDS so far.");
        MapFold x = new MapFold();
        e.due("none so far", x.image(), 0);
        x.fold(2, 0);
        e.due("one so far", x.image(), 1);
        x.fold(1, 0);
        e.due("back to the latest", x.back(), 1);
        e.due("columns", x.shape(1), 2);
        x.fold(1, 0);
        e.due("the image did not go on with it", x.back(), 1);
        e.due("columns", x.shape(1), 2);
        e.due("a crease", x.crease(0, 0), 0);
        x.sheet(11);
        e.due("none so far", x.image(), 0);
        x.sheet(48);
        e.due("back to one field", x.back() + x.count(0), 1);
    }

    private static void imageLeavesTheRest() {
        e.says("(laid back, CHANGES stay as they are)");
        MapFold x = Edges.made(Edges.RICH);
        x.limit(3);
        x.limit(7);
        x.undo();
        x.plan(1, 1);
        x.feed('n');
        x.body(0);
        x.back();
        e.due("the limit", x.limit(3), 3);
        e.due("the changes", x.count(3), 3);
        e.due("one may be done again", x.redo(), 0);
        e.due("the limit", x.limit(7), 7);
        e.due("the plan", x.count(1), 5);
        e.due("the tape", x.count(2), 3);
        e.due("the bodies", x.count(4), 9);
        e.due("folds as in the image", x.led(0), 3);
    }

    private static void imageAtTheLimit() {
        e.says("TORN now: by LIMIT as it is when LED is asked, behind back(), too");
        MapFold x = Edges.sheetOf(12);
        x.fold(1, 0);
        x.image();
        e.due("not torn", x.led(2), 0);
        x.limit(1);
        x.back();
        e.due("torn by the limit now", x.led(2), 1);
        x.undo();
        e.due("not torn by the one before", x.led(2), 0);
    }

    private static Edges.Use changes(int many) {
        return x -> {
            for (int i = 1; i <= many; i++) {
                x.limit(limitOf(i));
            }
            return x.count(3);
        };
    }

    /** What the i-th of many changes makes of the limit: never what it was; 20 ahead of the first. */
    private static int limitOf(int i) {
        return i == 0 ? 20 : i % 2 == 0 ? 50 + i % 40 : i % 40 + 1;
    }

    private static void undoneNone() {
        e.says("UNDONE: how many may still be. STATE: none.");
        e.unchanged("a new object", Edges.NEW, MapFold::undo, STATE);
        e.unchanged("one undone", x -> x.limit(5) + x.undo(), MapFold::undo, STATE);
        e.unchanged("what was refused is no change", x -> x.limit(0) + x.limit(100), MapFold::undo, STATE);
        e.unchanged("what it was is no change", x -> x.limit(20), MapFold::undo, STATE);
        e.unchanged("a fold is no change", x -> x.fold(1, 0) + x.sheet(12) + x.plan(1, 1) + x.feed(1), MapFold::undo,
            STATE);
        MapFold x = new MapFold();
        x.limit(1);
        e.due("none behind it", x.undo(), 0);
        e.due("the limit", x.limit(20), 20);
    }

    private static void undoneForty() {
        e.says("40 at most are kept");
        for (int many : new int[] {1, 39, 40, 41, 42, 80, 100}) {
            MapFold x = new MapFold();
            e.due(many + " changes", changes(many).on(x), Math.min(40, many));
            int can = Math.min(40, many);
            for (int i = can - 1; i >= 0; i--) {
                e.due("undone of " + many, x.undo(), i);
            }
            e.due("none is left of " + many, x.undo(), STATE);
            e.due("the limit behind all of " + many, x.limit(99), limitOf(many - can));
        }
        MapFold x = Edges.made(changes(40));
        e.due("the 41st", x.limit(99) > 0 ? x.count(3) : 0, 40);
        e.due("the latest is the first that is undone", x.undo(), 39);
        e.due("the limit", x.limit(90), 50);
    }

    private static void doneAgainNone() {
        e.says("DONE AGAIN: how many may still be. STATE: none.");
        e.unchanged("a new object", Edges.NEW, MapFold::redo, STATE);
        e.unchanged("none undone", changes(3), MapFold::redo, STATE);
        e.unchanged("all done again", x -> changes(1).on(x) + x.undo() + x.redo(), MapFold::redo, STATE);
        MapFold x = Edges.made(changes(3));
        x.undo();
        x.undo();
        x.undo();
        e.due("two may still be", x.redo(), 2);
        e.due("one", x.redo(), 1);
        e.due("none", x.redo(), 0);
        e.due("not one more", x.redo(), STATE);
        e.due("the latest", x.limit(9), 4);
    }

    private static void doneAgainAsLongAs() {
        e.says("DONE AGAIN (as long as no other came behind)");
        Edges.Use undone = x -> changes(3).on(x) + x.undo() + x.undo();
        e.unchanged("another came", x -> undone.on(x) + x.limit(99), MapFold::redo, STATE);
        e.unchanged("another came, as the undone one", x -> undone.on(x) + x.limit(52), MapFold::redo, STATE);
        MapFold refused = Edges.made(undone);
        refused.limit(0);
        refused.limit(100);
        e.due("what is refused is none", refused.redo(), 1);
        MapFold same = Edges.made(undone);
        e.due("the limit that it has", same.limit(2), 2);
        e.due("what changes nothing is none", same.redo(), 1);
        MapFold busy = Edges.made(undone);
        busy.fold(1, 0);
        busy.flat();
        busy.sheet(33);
        busy.plan(1, 1);
        busy.image();
        busy.back();
        e.due("no other call is one", busy.redo(), 1);
        MapFold one = Edges.made(undone);
        one.redo();
        one.limit(77);
        e.due("behind the one done again", one.redo(), STATE);
        e.due("three may be undone", one.count(3), 3);
        e.due("undone", one.undo(), 2);
        e.due("the one done again", one.limit(52), 52);
    }

    private static void doneAgainBehindForty() {
        e.says("40 at most are kept: those undone among them");
        MapFold x = Edges.made(changes(45));
        for (int i = 0; i < 40; i++) {
            x.undo();
        }
        for (int i = 39; i >= 0; i--) {
            e.due("done again", x.redo(), i);
            int latest = limitOf(45 - i);
            e.due("the limit behind it", x.limit(latest), latest);
        }
        e.due("none", x.redo(), STATE);
        e.due("forty", x.count(3), 40);
        MapFold y = Edges.made(changes(40));
        y.undo();
        y.limit(97);
        e.due("behind one undone there is room for one", y.count(3), 40);
        for (int i = 0; i < 40; i++) {
            y.undo();
        }
        e.due("the first is still kept", y.limit(99), 20);
    }

    private static void undoTears() {
        e.says("TORN (WORN as much as LIMIT or more): by an undone limit, too");
        MapFold x = Edges.sheetOf(12);
        x.fold(1, 0);
        x.flat();
        x.limit(1);
        e.due("torn", x.crease(0, 2), 1);
        x.undo();
        e.due("not torn", x.crease(0, 2), 0);
        e.due("bent", x.fold(1, 0), 1);
        x.flat();
        x.redo();
        e.due("torn again", x.crease(0, 2), 1);
        e.due("not bent", x.fold(1, 0), 0);
    }
}
