/** Promise by promise: ordinary calls, the edges that the document names, and wrong calls. */
public final class PromisesTest {
    private static final int BAD = -1, NOT = -2, FULL = -3, STATE = -5;
    private static int wrong = 0;
    private static int promise = 0;

    private static void due(String what, long got, long want) {
        if (got != want) {
            wrong++;
            System.out.println("promise " + promise + ": " + what + " answered " + got + ", due is " + want);
        }
    }

    public static void main(String[] args) {
        newObject();
        sheet();
        limit();
        feed();
        law();
        lawFaults();
        lawWorth();
        fold();
        foldBends();
        flat();
        crease();
        shape();
        where();
        pile();
        led();
        plan();
        plans();
        cost();
        lies();
        top();
        beside();
        wished();
        right();
        wind();
        crosses();
        orders();
        bends();
        by();
        with();
        image();
        undo();
        redo();
        body();
        act();
        trace();
        keep();
        row();
        put();
        element();
        shift();
        taken();
        count();
        System.out.println(wrong == 0 ? "all promises are kept" : wrong + " answers are not as due");
        if (wrong != 0) {
            System.exit(1);
        }
    }

    private static MapFold made(int rc) {
        MapFold x = new MapFold();
        x.sheet(rc);
        return x;
    }

    private static int write(MapFold x, String text) {
        for (int i = 0; i < text.length(); i++) {
            x.feed(text.charAt(i));
        }
        return x.law();
    }

    private static void newObject() {
        promise = 1;
        MapFold x = new MapFold();
        due("rows", x.shape(0), 2);
        due("columns", x.shape(1), 4);
        due("highest pile", x.shape(2), 1);
        due("the last field's row", x.where(7, 0), 1);
        due("the last field's column", x.where(7, 1), 3);
        due("a face", x.where(5, 3), 0);
        due("limit at first", x.limit(20), 20);
        for (int what = 0; what < 3; what++) {
            due("led", x.led(what), 0);
        }
        for (int what = 1; what < 6; what++) {
            due("count " + what, x.count(what), 0);
        }
        due("no image", x.back(), STATE);
        due("no law", x.fold(1, 0) * 10 + x.crease(0, 0), 21);
        due("nothing on a shelf", x.put(5, 0, 1), -11);
    }

    private static void sheet() {
        promise = 2;
        MapFold x = new MapFold();
        x.fold(2, 0);
        due("48", x.sheet(48), 24);
        due("fields", x.count(0), 32);
        due("folds led", x.led(0), 0);
        due("a crease is new", x.crease(10, 0), 0);
        due("a last bend is new", x.crease(10, 1), 0);
        due("it is flat", x.shape(2), 1);
        x.fold(1, 0);
        x.flat();
        x.fold(1, 1);
        due("wrong led", x.led(1), 4);
        due("41", x.sheet(41), 48);
        due("wrong led anew", x.led(1), 0);
        due("rows", x.shape(0), 4);
        due("columns", x.shape(1), 1);
        for (int rc : new int[] {0, 1, 8, 9, 10, 19, 20, 30, 40, 49, 50, 51, -1, -11, -24, 111, Integer.MIN_VALUE,
                Integer.MAX_VALUE}) {
            due("sheet " + rc, x.sheet(rc), BAD);
        }
        due("still 41", x.sheet(11), 41);
        due("11", x.sheet(18), 11);
        MapFold y = new MapFold();
        y.limit(7);
        y.plan(1, 0);
        y.feed(49);
        y.image();
        y.sheet(22);
        due("the limit stays", y.limit(7), 7);
        due("the plan stays", y.count(1), 1);
        due("the tape stays", y.count(2), 1);
        due("the image stays", y.back(), 0);
        due("and lays R and C back", y.sheet(11), 24);
    }

    private static void limit() {
        promise = 3;
        MapFold x = new MapFold();
        due("0", x.limit(0), BAD);
        due("100", x.limit(100), BAD);
        due("-1", x.limit(-1), BAD);
        due("no change", x.count(3), 0);
        due("1", x.limit(1), 20);
        due("99", x.limit(99), 1);
        due("1 again", x.limit(1), 99);
        x.fold(1, 0);
        due("worn 1 is torn", x.crease(0, 2), 1);
        x.limit(2);
        due("worn 1 is not torn", x.crease(0, 2), 0);
        due("changes", x.count(3), 4);
        x.limit(2);
        due("the same is no change", x.count(3), 4);
    }

    private static void feed() {
        promise = 4;
        MapFold x = new MapFold();
        due("-1", x.feed(-1), BAD);
        due("256", x.feed(256), BAD);
        for (int i = 0; i < 120; i++) {
            due("byte " + i, x.feed(i == 0 ? 0 : 255), i + 1);
        }
        due("121st", x.feed(49), FULL);
        due("BAD ahead of FULL", x.feed(256), BAD);
        due("120 are there", x.count(2), 120);
        due("a byte 0 is no text", x.law(), -100);
        due("the tape is empty", x.feed(49), 1);
    }

    private static void law() {
        promise = 5;
        MapFold x = new MapFold();
        due("2", write(x, "2"), 1);
        due("the tape is empty", x.count(2), 0);
        due("an empty tape", x.law(), -100);
        x.fold(1, 0);
        due("the law stays behind a fault", x.crease(0, 0), 2);
        due("w+", write(x, "w+"), -102);
        due("the tape is empty behind a fault", x.count(2), 0);
        x.flat();
        x.fold(1, 0);
        due("the law still stays", x.crease(0, 0), 4);
        StringBuilder longest = new StringBuilder("1");
        while (longest.length() < 119) {
            longest.append("+0");
        }
        due("119 bytes", write(x, longest.toString()), 1);
        due("120 bytes", write(x, longest + "0"), 1);
        due("120 signs ahead", write(x, "1+".repeat(60)), -220);
    }

    private static void lawFaults() {
        Object[][] texts = {
            {"n", -1}, {"n;w", -1}, {"n?w;r", -1}, {"1234", -1}, {"0000", -1}, {"(n)", -1}, {"!-!-!-n", -1},
            {"((((((n))))))", -1}, {"!(-(!(n)))", -1}, {"n<w&r=k|f>b", -1}, {"n-w*-r", -1}, {"(n<w)<r", -1},
            {"!n+!!!!!!w", -1}, {"n?w;n?w", -1}, {"n--w", -1}, {"n%w/r*k", -1},
            {"", 0}, {";", 0}, {"n;", 2}, {";n", 0}, {"n;;w", 2}, {"n?", 2}, {"?n", 0}, {"n?w?r", 3},
            {"(n?w)", 2}, {"12345", 4}, {"n w", 1}, {" n", 0}, {"nw", 1}, {"1n", 1}, {"n1", 1}, {"N", 0},
            {"n<w<r", 3}, {"n=w>r", 3}, {"n<", 2}, {"n<=w", 2}, {"n&&w", 2}, {"n|", 2}, {"n+*w", 2}, {"+n", 0},
            {"(n", 2}, {"(", 1}, {"()", 1}, {"n)", 1}, {"(n))", 3}, {"((((((n)))))", 12}, {"(((((((n", 6},
            {"!!!!!!!n", 6}, {"------n", -1}, {"-------n", 6}, {"(!-(!-(n", 6}, {"n!w", 1}, {"n(w)", 1},
            {"(n)w", 3}, {"n?w;", 4}, {"n;w?", 4}, {"!", 1}, {"-", 1}, {"x", 0}, {"n.w", 1}, {"n^w", 1},
            {"(1;2)", 2}, {"n*(w+)", 5}, {"\u00ff", 0}, {"n\u0000", 1}, {"!(n)!w", 4}, {"(((((!n)))))", -1},
            {"(((((!!n", 6}, {"n?!!!!!!w", -1}, {"n?!!!!!!!w", 8}, {"n;((((((w))))))", -1}, {"n;!!!!!!(w", 8},
            {"((((((1))))))+!!!!!!1", -1},
        };
        for (Object[] t : texts) {
            int fault = (Integer) t[1];
            due("law " + t[0], write(new MapFold(), (String) t[0]), fault < 0 ? 1 : -100 - fault);
        }
    }

    /** By how much the first crease of a sheet of one row is worn at its first fold, line 1, over. */
    private static int worth(int rc, String text) {
        MapFold x = made(rc);
        write(x, text);
        x.fold(1, 0);
        return x.crease(0, 0);
    }

    private static void lawWorth() {
        Object[][] texts = {
            {"7", 7}, {"9", 9}, {"10", 9}, {"-1", 0}, {"0", 0}, {"0007", 7}, {"2+3*2", 8}, {"(2+1)*2", 6},
            {"9-3-2", 4}, {"8/2/2", 2}, {"8/3", 2}, {"8%3", 2}, {"-8/3+5", 3}, {"-8%3+5", 3}, {"5/0+3", 3},
            {"5%0+3", 3}, {"9-5%0", 9}, {"3-(-2)", 5}, {"3--2", 5}, {"--4", 4}, {"!0", 1}, {"!5", 0}, {"!!5", 1},
            {"!5+3", 3}, {"-2*-3", 6}, {"2<3", 1}, {"3<3", 0}, {"3=3", 1}, {"3>2", 1}, {"2>3", 0}, {"1+1=2", 1},
            {"(5|0)+3", 4}, {"(0|0)+3", 3}, {"(5&4)+3", 4}, {"(5&0)+3", 3}, {"5|0&0", 1}, {"2&4", 1},
            {"0?5;6", 6}, {"1?5;6", 5}, {"0?5", 0}, {"0?5;0?6;0?7", 0}, {"-1?4;6", 4}, {"0;6", 0}, {"3;6?9", 3},
            {"1?0;6", 0}, {"0?1/0;2", 2}, {"n", 1}, {"w+2", 2}, {"r+2", 2}, {"k+2", 2}, {"f+2", 2}, {"b+2", 3},
            {"-n+3", 2}, {"2*3%4", 2}, {"7-2*3", 1},
            {"9999*9999*21<0", 0}, {"9999*9999*22<0", 1}, {"8192*8192*32<0", 1}, {"8192*8192*64=0", 1},
            {"8192*8192*32-1>0", 1}, {"8192*8192*32/-1<0", 1}, {"8192*8192*32%-1+4", 4},
            {"-(8192*8192*32)=8192*8192*32", 1},
        };
        for (Object[] t : texts) {
            due("law " + t[0], worth(12, (String) t[0]), (Integer) t[1]);
        }
        due("120 bytes, each of them counting", worth(12, "!0" + "+0".repeat(58) + "+7"), 8);
        due("120 bytes of lines", worth(12, "0?1;".repeat(29) + "1?05"), 5);
        MapFold x = made(33);
        write(x, "n");
        x.fold(1, 4);
        due("n is how many are bent", x.crease(1, 0), 3);
        write(x, "f");
        x.sheet(33);
        x.fold(2, 0);
        due("f is the lesser field", x.crease(40, 0), 4);
        due("f of another", x.crease(70, 0), 7);
        write(x, "k*5+b");
        x.sheet(33);
        x.fold(1, 5);
        due("k and b", x.crease(1, 0), 7);
        x.flat();
        write(x, "r*2+w");
        x.fold(1, 4);
        due("r and w", x.crease(1, 0), 7 + 2 + 7);
    }

    private static void fold() {
        promise = 6;
        MapFold x = made(48);
        due("way 8", x.fold(1, 8), BAD);
        due("way -1", x.fold(1, -1), BAD);
        due("BAD ahead of NOT", x.fold(0, 8), BAD);
        due("line 0", x.fold(0, 0), NOT);
        due("line 8", x.fold(8, 2), NOT);
        due("row line 4", x.fold(4, 6), NOT);
        due("line -1", x.fold(-1, 7), NOT);
        due("least line", x.fold(Integer.MIN_VALUE, 7), NOT);
        due("nothing came", x.led(0), 0);
        due("line 7", x.fold(7, 2), 4);
        due("columns", x.shape(1), 7);
        due("rows by 3", x.fold(3, 4), 8);
        due("rows", x.shape(0), 3);
        // Behind it rows 2, 1, 0 lie from row 0 on, turned, row 2 over row 3.
        due("field 24's row", x.where(24, 0), 0);
        due("field 16's row", x.where(16, 0), 0);
        due("field 16 is over it", x.where(16, 2), 1);
        due("field 0's row", x.where(0, 0), 2);
        due("field 0's face", x.where(0, 3), 1);
        wider();
        overAndUnder();
    }

    /** What comes may reach beyond the other end: the shape then begins there. */
    private static void wider() {
        MapFold x = made(15);
        x.fold(1, 2);
        due("columns", x.shape(1), 4);
        due("field 1 over field 0", x.pile(3, -1), 1);
        due("field 4 first", x.pile(0, -1), 4);
        MapFold y = made(15);
        y.fold(4, 1);
        due("columns", y.shape(1), 4);
        due("field 3 under field 4", y.pile(0, 0), 3);
        due("field 0 last", y.pile(3, 0), 0);
        MapFold z = made(41);
        z.fold(1, 7);
        due("rows", z.shape(0), 3);
        due("field 1 under field 0", z.pile(20, 0), 1);
        due("field 3 first", z.pile(0, 0), 3);
    }

    private static void overAndUnder() {
        // Four fields, halved twice: left (or above) over, under, right (or below) over, under.
        String[] orders = {"3012", "2103", "0321", "1230"};
        for (int way = 0; way < 8; way++) {
            MapFold x = made(way < 4 ? 14 : 41);
            x.fold(2, way);
            x.fold(1, way);
            for (int i = 0; i < 4; i++) {
                due("by way " + way + ", from below " + i, x.pile(0, i), orders[way % 4].charAt(i) - '0');
            }
        }
    }

    private static void foldBends() {
        int[] first = {1, 2, 1, 2, 1, 2, 1, 2};
        for (int way = 0; way < 8; way++) {
            MapFold x = made(way < 4 ? 12 : 21);
            due("bent by way " + way, x.fold(1, way), 1);
            due("bend by way " + way, x.crease(way < 4 ? 0 : 1, 1), first[way]);
        }
        MapFold x = made(14);
        x.fold(2, 0);
        due("two are bent", x.fold(1, 0), 2);
        due("0 and 1 lie face down and 1 comes: mountain", x.crease(0, 1), 2);
        due("2 and 3 lie face up and 2 comes: valley", x.crease(20, 1), 1);
        x.flat();
        x.fold(1, 1);
        due("under again: not wrong", x.led(1), 0);
        x.flat();
        x.fold(1, 0);
        due("over: wrong", x.led(1), 1);
        due("wrong wears 3", x.crease(0, 0), 5);
        MapFold t = made(12);
        t.limit(2);
        for (int i = 0; i < 3; i++) {
            due("bent until torn", t.fold(1, 0), i < 2 ? 1 : 0);
            t.flat();
        }
        due("worn no more", t.crease(0, 0), 2);
        due("folds led", t.led(0), 3);
        MapFold most = made(12);
        most.limit(99);
        write(most, "9");
        for (int i = 0; i < 12; i++) {
            most.fold(1, 0);
            most.flat();
        }
        due("99 at most", most.crease(0, 0), 99);
    }

    private static void flat() {
        promise = 7;
        MapFold x = new MapFold();
        due("8 piles", x.flat(), 8);
        x.fold(1, 0);
        due("6 piles", x.flat(), 6);
        due("as the sheet", x.where(1, 1), 1);
        due("faces up", x.where(0, 3), 0);
        due("creases as they are", x.crease(0, 0), 1);
        due("folds led as they are", x.led(0), 1);
        due("columns", x.shape(1), 4);
    }

    private static void crease() {
        promise = 8;
        MapFold x = new MapFold();
        x.fold(1, 4);
        due("worn", x.crease(31, 0), 1);
        due("last", x.crease(31, 1), 1);
        due("torn", x.crease(31, 2), 0);
        due("another", x.crease(0, 1), 0);
        x.limit(1);
        due("torn", x.crease(31, 2), 1);
        for (int fk : new int[] {-1, -10, 2, 9, 30, 41, 70, 71, 80, Integer.MIN_VALUE, Integer.MAX_VALUE}) {
            due("crease " + fk, x.crease(fk, 0), BAD);
        }
        due("what 3", x.crease(0, 3), BAD);
        due("what -1", x.crease(0, -1), BAD);
        due("60 is there", x.crease(60, 0), 0);
    }

    private static void shape() {
        promise = 9;
        MapFold x = made(34);
        due("rows", x.shape(0), 3);
        due("columns", x.shape(1), 4);
        x.fold(1, 2);
        due("columns", x.shape(1), 3);
        x.fold(1, 6);
        due("rows", x.shape(0), 2);
        due("highest", x.shape(2), 4);
        due("what 3", x.shape(3), BAD);
        due("what -1", x.shape(-1), BAD);
    }

    private static void where() {
        promise = 10;
        MapFold x = new MapFold();
        x.fold(2, 1);
        due("row", x.where(4, 0), 1);
        due("column", x.where(4, 1), 1);
        due("below", x.where(4, 2), 0);
        due("face", x.where(4, 3), 1);
        due("below the one that stays", x.where(7, 2), 1);
        due("field 8", x.where(8, 0), BAD);
        due("field -1", x.where(-1, 0), BAD);
        due("what 4", x.where(0, 4), BAD);
        due("what -1", x.where(0, -1), BAD);
    }

    private static void pile() {
        promise = 11;
        MapFold x = new MapFold();
        x.fold(2, 0);
        due("lowest", x.pile(11, 0), 7);
        due("next", x.pile(11, 1), 4);
        due("topmost", x.pile(11, -1), 4);
        due("how many", x.pile(11, -2), 2);
        for (int rc : new int[] {-1, 2, 12, 20, 100, -10, Integer.MIN_VALUE, Integer.MAX_VALUE}) {
            due("pile " + rc, x.pile(rc, -2), BAD);
        }
        due("i 2", x.pile(0, 2), BAD);
        due("i -3", x.pile(0, -3), BAD);
    }

    private static void led() {
        promise = 12;
        MapFold x = new MapFold();
        x.fold(2, 0);
        x.fold(9, 0);
        x.flat();
        x.fold(2, 1);
        due("folds", x.led(0), 2);
        due("wrong", x.led(1), 2);
        due("torn", x.led(2), 0);
        x.limit(4);
        due("torn now", x.led(2), 2);
        x.limit(5);
        due("torn now", x.led(2), 0);
        due("what 3", x.led(3), BAD);
        due("what -1", x.led(-1), BAD);
    }

    private static void plan() {
        promise = 13;
        MapFold x = new MapFold();
        for (int[] f : new int[][] {{-1, 0}, {8, 0}, {1, -1}, {1, 8}}) {
            due("plan " + f[0] + ", " + f[1], x.plan(f[0], f[1]), BAD);
        }
        for (int i = 1; i <= 12; i++) {
            due("fold " + i, x.plan(1 + i % 7, i % 8), i);
        }
        due("13th", x.plan(7, 7), FULL);
        due("BAD ahead of FULL", x.plan(8, 7), BAD);
        due("twelve stay", x.count(1), 12);
        due("line 0", x.plan(0, 99), 0);
        due("empty", x.count(1), 0);
        due("nothing is folded", x.led(0), 0);
    }

    private static MapFold withRow(int... bytes) {
        MapFold x = new MapFold();
        x.row(2, 0, bytes.length);
        for (int i = 0; i < bytes.length; i++) {
            x.put(2, i, bytes[i]);
        }
        return x;
    }

    private static void plans() {
        promise = 14;
        MapFold x = withRow(9, 2, 0, 1, 5, 1, 3, 7);
        due("from 1, three", x.plans(2, 1, 3), 3);
        due("the first is 2, 0 and so on", x.cost(0), 3);
        due("shape behind them", x.top(3, 0), 5);
        due("from 1, four: the row ends within a two", x.plans(2, 1, 4), 3);
        due("from 0: 9 is no line", x.plans(2, 0, 4), 0);
        due("from 7: within a two", x.plans(2, 7, 1), 0);
        due("from 8", x.plans(2, 8, 1), 0);
        due("from -1", x.plans(2, -1, 1), 0);
        due("from -2", x.plans(2, -2, 2), 0);
        due("from the highest int", x.plans(2, Integer.MAX_VALUE, 12), 0);
        due("from the least int", x.plans(2, Integer.MIN_VALUE, 12), 0);
        due("six there are", x.count(1), 6);
        x.plans(2, 1, 3);
        due("nine", x.plans(2, 1, 2), 2);
        due("one more, then FULL", x.plans(2, 1, 3), 1);
        due("FULL at once", x.plans(2, 1, 3), 0);
        due("n 0", x.plans(2, 1, 0), BAD);
        due("n 13", x.plans(2, 1, 13), BAD);
        due("shelf 6", x.plans(6, 1, 1), BAD);
        due("shelf -1", x.plans(-1, 1, 1), BAD);
        due("nothing there", x.plans(3, 0, 1), 0);
        x.row(3, 1, 4);
        due("shorts", x.plans(3, 0, 1), -12);
        due("BAD ahead of -12", x.plans(3, 0, 0), BAD);
        due("-12 at a place below 0", x.plans(3, -1, 1), -12);
        x.body(0);
        x.keep(3, 0);
        due("a folding", x.plans(3, 0, 1), -12);
        MapFold y = withRow(1, 0, 0, 1, 1, 1);
        due("line 0 ends it, and empties nothing", y.plans(2, 0, 3) * 10 + y.count(1), 11);
        due("a way below 0", withRow(1, -1).plans(2, 0, 1), 0);
        due("a line below 0", withRow(-1, 1).plans(2, 0, 1), 0);
        due("a way of 8", withRow(1, 8).plans(2, 0, 1), 0);
    }

    private static void cost() {
        promise = 15;
        MapFold x = new MapFold();
        due("can, no plan", x.cost(0), 0);
        x.plan(2, 0);
        x.plan(1, 4);
        x.plan(1, 4);
        x.plan(1, 0);
        due("can", x.cost(0), 2);
        due("worn", x.cost(1), 6);
        due("wrong", x.cost(2), 0);
        due("torn", x.cost(3), 0);
        x.limit(1);
        due("torn", x.cost(3), 6);
        due("changes nothing", x.led(0) + x.crease(10, 0), 0);
        x.limit(20);
        x.fold(2, 1);
        due("asked from flat", x.cost(0), 2);
        due("wrong now", x.cost(2), 2);
        due("worn now", x.cost(1), 10);
        x.limit(1);
        due("what is torn bends no more", x.cost(1), 4);
        due("and became torn ahead", x.cost(3), 4);
        due("the shape stays", x.shape(1), 2);
        due("what 4", x.cost(4), BAD);
        due("what -1", x.cost(-1), BAD);
        MapFold y = made(12);
        write(y, "9");
        y.limit(99);
        for (int i = 0; i < 10; i++) {
            y.fold(1, 0);
            y.flat();
        }
        write(y, "5");
        y.fold(1, 0);
        write(y, "9");
        y.plan(1, 0);
        due("95 and 9 are 4 more", y.cost(1), 4);
    }

    private static void lies() {
        promise = 16;
        MapFold x = new MapFold();
        x.plan(2, 1);
        x.plan(1, 6);
        x.plan(5, 0);
        x.fold(1, 0);
        due("behind 0: row", x.lies(400, 0), 1);
        due("behind 1: column", x.lies(401, 1), 1);
        due("behind 1: below", x.lies(701, 2), 1);
        due("behind 1: face", x.lies(401, 3), 1);
        due("behind 2: row", x.lies(402, 0), 0);
        due("behind 2: below", x.lies(402, 2), 3);
        due("behind 2: face", x.lies(402, 3), 0);
        due("behind 3", x.lies(403, 0), BAD);
        due("field 8", x.lies(800, 0), BAD);
        due("below 0", x.lies(-1, 0), BAD);
        due("far below 0", x.lies(-100, 0), BAD);
        due("what 4", x.lies(0, 4), BAD);
        due("what -1", x.lies(0, -1), BAD);
    }

    private static void top() {
        promise = 17;
        MapFold x = new MapFold();
        x.plan(2, 1);
        x.plan(1, 6);
        due("behind 0", x.top(0, 13), 7);
        due("behind 1", x.top(1, 11), 7);
        due("behind 2", x.top(2, 1), 4);
        due("behind 3", x.top(3, 1), BAD);
        due("behind -1", x.top(-1, 1), BAD);
        due("no pile 2", x.top(1, 2), BAD);
        due("no pile 10 behind 2", x.top(2, 10), BAD);
        due("pile -1", x.top(0, -1), BAD);
        due("pile -10", x.top(0, -10), BAD);
    }

    private static void beside() {
        promise = 18;
        MapFold x = new MapFold();
        x.plan(2, 1);
        due("0 and 1", x.beside(0, 1), 1);
        due("1 and 0", x.beside(0, 100), 1);
        due("3 and 7", x.beside(0, 307), 1);
        due("0 and 5", x.beside(0, 5), 0);
        due("3 and 4 in the sheet", x.beside(0, 304), 0);
        due("2 and 3 behind it", x.beside(1, 203), 1);
        due("0 and 1 behind it lie below", x.beside(1, 1), 0);
        due("2 and 1: one pile", x.beside(1, 201), 0);
        due("2 and 0: one below", x.beside(1, 200), 0);
        due("one and the same", x.beside(0, 202), BAD);
        due("field 8", x.beside(0, 8), BAD);
        due("field 8", x.beside(0, 801), BAD);
        due("behind 2", x.beside(2, 1), BAD);
        due("behind -1", x.beside(-1, 1), BAD);
        due("below 0", x.beside(0, -1), BAD);
    }

    private static void wished() {
        promise = 19;
        MapFold x = made(13);
        due("two folds", x.wished(0, -1), 2);
        due("first", x.wished(0, 0), 10);
        due("the middle one on top", x.wished(1, 0) * 100 + x.wished(1, 1), 1010);
        due("i 2 of two", x.wished(0, 2), BAD);
        due("i 3", x.wished(0, 3), BAD);
        due("i -2", x.wished(0, -2), BAD);
        due("field 3", x.wished(3, -1), BAD);
        due("field -1", x.wished(-1, -1), BAD);
        x.sheet(11);
        due("no folds", x.wished(0, -1), 0);
        due("none such", x.wished(0, 0), BAD);
        x.sheet(44);
        due("16 fields", x.wished(0, -1), NOT);
        due("NOT, its first fold", x.wished(0, 0), NOT);
        due("BAD ahead of NOT", x.wished(0, 3), BAD);
        x.sheet(36);
        due("18 fields", x.wished(0, -1), STATE);
        due("BAD ahead of STATE", x.wished(18, -1), BAD);
        due("i 3 ahead of STATE", x.wished(0, 3), BAD);
        x.sheet(24);
        x.fold(1, 0);
        due("from flat", x.wished(3, -1), 3);
        due("nothing is changed", x.led(0), 1);
    }

    private static void right() {
        promise = 20;
        MapFold x = made(12);
        due("wrong", x.right(-1), 0);
        due("worn", x.right(-2), 1);
        due("folds", x.right(-3), 1);
        due("first fold", x.right(0), 10);
        due("second", x.right(1), BAD);
        x.fold(1, 1);
        due("bent as a mountain: under", x.right(0), 11);
        due("nothing is changed", x.crease(0, 0), 1);
        due("what 3", x.right(3), BAD);
        due("what -4", x.right(-4), BAD);
        x.sheet(14);
        due("two folds", x.right(-3), 2);
        due("worn 3", x.right(-2), 3);
        write(x, "n=2?9;0");
        due("by a law three folds are less", x.right(-3) * 100 + x.right(-2), 300);
        x.sheet(36);
        due("18 fields", x.right(-1), STATE);
        due("BAD ahead of STATE", x.right(-4), BAD);
        x.sheet(28);
        due("16 fields", x.right(0), NOT);
        x.sheet(11);
        due("no folds", x.right(-3), 0);
        due("none such", x.right(0), BAD);
    }

    private static void wind() {
        promise = 21;
        MapFold x = new MapFold();
        x.fold(2, 0);
        x.flat();
        x.plan(2, 0);
        x.plan(9, 0);
        due("no wind: wrong", x.wind(5, 20000, 0), 0);
        due("no wind: worn", x.wind(5, 20000, 1), 2);
        due("all wind: wrong", x.wind(5, 20100, 0), 2);
        due("all wind: worn", x.wind(5, 20100, 1), 6);
        due("nothing is changed", x.led(0) * 10 + x.led(1), 10);
        int z = 77;
        int wrongs = 0;
        for (int i = 0; i < 7; i++) {
            z = z * 1103515245 + 12345;
            wrongs += (z >>> 8) % 100 < 40 ? 2 : 0;
        }
        due("some wind", x.wind(77, 7040, 0), wrongs / 7);
        due("some wind: worn", x.wind(77, 7040, 1), (14 + 2 * wrongs) / 7);
        for (int nh : new int[] {0, 999, 100, 1101, 1999, 21000, -1000, -1, Integer.MIN_VALUE, Integer.MAX_VALUE}) {
            due("nh " + nh, x.wind(1, nh, 0), BAD);
        }
        due("what 2", x.wind(1, 1000, 2), BAD);
        due("what -1", x.wind(1, 1000, -1), BAD);
    }

    private static void crosses() {
        promise = 22;
        MapFold x = new MapFold();
        due("12", x.crosses(2, 12), NOT);
        due("1324: 0 and 2 cross", x.crosses(4, 1324), 2);
        due("1234", x.crosses(4, 1234), NOT);
        due("24351: 1 and 3 cross", x.crosses(5, 24351), 13);
        due("24135: 0 and 2 cross ahead of 1 and 3", x.crosses(5, 24135), 2);
        due("the same from above", x.crosses(5, 53142), 2);
        due("1234657: 4 and 5 are on two sides, 3 and 5 cross", x.crosses(7, 1234657), 35);
        for (int order : new int[] {0, 1, 123, 12345, 1233, 1235, 1204, -1234, 4321000, Integer.MAX_VALUE}) {
            due("order " + order, x.crosses(4, order), BAD);
        }
        due("n 1", x.crosses(1, 1), BAD);
        due("n 8", x.crosses(8, 12345678), BAD);
        due("n -1", x.crosses(-1, 12), BAD);
    }

    private static void orders() {
        promise = 23;
        int[] many = {2, 6, 16, 50, 144, 462};
        for (int n = 2; n <= 7; n++) {
            MapFold all = new MapFold();
            due("of " + n, all.orders(n, -1), many[n - 2]);
            due("the one behind the last of " + n, all.orders(n, many[n - 2]), BAD);
            int before = 0;
            for (int i = 0; i < many[n - 2]; i++) {
                int order = all.orders(n, i);
                due("it crosses nothing", new MapFold().crosses(n, order), NOT);
                due("they rise", before < order ? 1 : 0, 1);
                before = order;
            }
        }
        MapFold x = new MapFold();
        due("first of 4", x.orders(4, 0), 1234);
        due("second of 4", x.orders(4, 1), 1243);
        due("last of 3", x.orders(3, 5), 321);
        due("i -2", x.orders(4, -2), BAD);
        due("n 1", x.orders(1, -1), BAD);
        due("n 8", x.orders(8, -1), BAD);
    }

    private static void bends() {
        promise = 24;
        MapFold x = new MapFold();
        due("12", x.bends(2, 12), 1);
        due("21", x.bends(2, 21), 0);
        due("123", x.bends(3, 123), 1);
        due("321", x.bends(3, 321), 2);
        due("132", x.bends(3, 132), 3);
        due("1234", x.bends(4, 1234), 5);
        due("1324", x.bends(4, 1324), STATE);
        due("1224", x.bends(4, 1224), BAD);
        due("n 8", x.bends(8, 12), BAD);
    }

    private static void by() {
        promise = 25;
        MapFold x = new MapFold();
        due("2 by a valley", x.by(2, 1, 1), 12);
        due("2 by a mountain", x.by(2, 0, 1), 21);
        due("3 by two valleys", x.by(3, 3, 0), 2);
        due("the first", x.by(3, 3, 1), 132);
        for (int n = 2; n <= 7; n++) {
            int sum = 0;
            for (int b = 0; b < 1 << (n - 1); b++) {
                sum += x.by(n, b, 0);
                due("bends of the first", x.bends(n, x.by(n, b, 1)), b);
            }
            due("all of " + n, sum, x.orders(n, -1));
            due("too many bits", x.by(n, 1 << (n - 1), 0), BAD);
        }
        due("bends -1", x.by(4, -1, 0), BAD);
        due("what 2", x.by(4, 1, 2), BAD);
        due("what -1", x.by(4, 1, -1), BAD);
        due("n 1", x.by(1, 0, 0), BAD);
        due("n 8", x.by(8, 0, 0), BAD);
        due("n 40", x.by(40, 0, 0), BAD);
    }

    private static void with() {
        promise = 26;
        MapFold x = new MapFold();
        due("of 3, field 1", x.with(3, 1), 2);
        for (int n = 2; n <= 7; n++) {
            MapFold all = new MapFold();
            int[] tops = new int[8];
            int many = all.orders(n, -1);
            for (int i = 0; i < many; i++) {
                tops[all.orders(n, i) % 10 - 1]++;
            }
            for (int f = 0; f < n; f++) {
                due("of " + n + " field " + f, all.with(n, f), tops[f]);
            }
            due("no such field", all.with(n, n), BAD);
        }
        due("field -1", x.with(3, -1), BAD);
        due("n 1", x.with(1, 0), BAD);
        due("n 8", x.with(8, 0), BAD);
    }

    private static void image() {
        promise = 27;
        MapFold x = new MapFold();
        x.fold(2, 0);
        due("folds so far", x.image(), 1);
        x.fold(1, 1);
        due("folds so far", x.image(), 2);
        x.sheet(11);
        x.limit(3);
        x.plan(1, 1);
        promise = 28;
        due("back", x.back(), 2);
        due("columns", x.shape(1), 1);
        due("fields", x.count(0), 8);
        due("a crease", x.crease(10, 0), 1);
        due("a field", x.where(0, 2), 3);
        due("the limit stays", x.limit(3), 3);
        due("the change stays", x.count(3), 1);
        due("the plan stays", x.count(1), 1);
        x.flat();
        x.fold(2, 1);
        due("wrong led", x.led(1), 2);
        due("the image is still what it was", x.back(), 2);
        due("wrong led, laid back", x.led(1), 0);
        due("last bend, laid back", x.crease(10, 1), 1);
        due("none", new MapFold().back(), STATE);
    }

    private static void undo() {
        promise = 29;
        MapFold x = new MapFold();
        due("none", x.undo(), STATE);
        for (int i = 1; i <= 45; i++) {
            x.limit(i);
        }
        due("40 at most", x.count(3), 40);
        for (int i = 39; i >= 0; i--) {
            due("may still be", x.undo(), i);
        }
        due("none any more", x.undo(), STATE);
        due("the oldest are kept no more", x.limit(5), 5);
        for (int i = 39; i >= 0; i--) {
            due("may still be done again", x.redo(), i);
        }
        due("the latest", x.limit(45), 45);
    }

    private static void redo() {
        promise = 30;
        MapFold x = new MapFold();
        due("none", x.redo(), STATE);
        x.limit(5);
        x.limit(6);
        x.limit(7);
        x.undo();
        x.undo();
        due("one more", x.redo(), 1);
        due("it is 6", x.limit(6), 6);
        due("the same is no change, and ends nothing", x.redo(), 0);
        due("it is 7", x.limit(7), 7);
        due("none", x.redo(), STATE);
        x.undo();
        due("BAD ends nothing", x.limit(0), BAD);
        x.limit(9);
        due("another came behind", x.redo(), STATE);
        due("three", x.count(3), 3);
        x.undo();
        x.fold(1, 0);
        x.sheet(11);
        due("what is no change ends nothing", x.redo(), 0);
        due("it is 9", x.limit(9), 9);
    }

    private static void body() {
        promise = 31;
        MapFold x = new MapFold();
        due("kind 8", x.body(8), BAD);
        due("kind -1", x.body(-1), BAD);
        for (int i = 0; i < 50; i++) {
            due("body " + i, x.body(i % 8), i);
        }
        due("51st", x.body(0), FULL);
        due("BAD ahead of FULL", x.body(8), BAD);
        due("50 there are", x.count(4), 50);
    }

    private static void act() {
        promise = 32;
        MapFold x = new MapFold();
        for (int kind = 0; kind < 8; kind++) {
            x.body(kind);
        }
        // By kind: folds(10), lays(10), wears(10), tells(10), with n the kind's number.
        int[][] due = {
            {10, 20, 10, 19}, {14, 28, 11, 28}, {12, -24, 8, -27}, {13, -28, 27, -34},
            {14, 28, 8, 29}, {15, -32, 45, -47}, {38, 76, 12, 69}, {17, 30, 4, 32}};
        for (int kind = 0; kind < 8; kind++) {
            for (int act = 0; act < 4; act++) {
                due("kind " + kind + ", act " + act, x.act(kind, act, 10), due[kind][act]);
            }
        }
        due("it wraps", x.act(6, 0, Integer.MAX_VALUE), (Integer.MAX_VALUE + 6 + 3) * 2);
        due("no such folding", x.act(8, 0, 5), 0);
        due("no trace then", x.count(5), 0);
        x.act(7, 3, 5);
        due("no such folding", x.act(-1, 0, 5), 0);
        due("no trace then", x.trace(0), BAD);
        x.act(7, 3, 5);
        due("no such act", x.act(1, 4, 5), 0);
        due("no trace then", x.count(5), 0);
        due("no such act", x.act(1, -1, 5), 0);
    }

    private static void trace() {
        promise = 33;
        MapFold x = new MapFold();
        due("none at first", x.trace(0), BAD);
        for (int kind = 0; kind < 8; kind++) {
            x.body(kind);
        }
        x.act(7, 3, 1);
        int[] stuck = {81, 2, 80, 10, 1, 50, 11, 1, 50, 11, 1};
        due("ran", x.count(5), stuck.length);
        for (int i = 0; i < stuck.length; i++) {
            due("trace " + i, x.trace(i), stuck[i]);
        }
        due("behind them", x.trace(stuck.length), BAD);
        x.act(5, 3, 1);
        int[] torn = {60, 2, 41, 30, 10, 1, 40, 11};
        for (int i = 0; i < torn.length; i++) {
            due("trace " + i, x.trace(i), torn[i]);
        }
        due("only the latest act's", x.trace(torn.length), BAD);
        x.act(6, 0, 1);
        due("70", x.trace(0), 70);
        due("20", x.trace(1), 20);
        due("1", x.trace(2), 1);
        due("-1", x.trace(-1), BAD);
        due("24", x.trace(24), BAD);
    }

    private static void keep() {
        promise = 34;
        MapFold x = new MapFold();
        due("no such body", x.keep(0, 0), BAD);
        x.body(3);
        due("a body", x.keep(5, 0), 1);
        due("it is there", x.taken(5, 3), 3);
        due("nothing", x.keep(5, -1), 1);
        due("nothing is there", x.taken(5, 3), -11);
        due("body -2", x.keep(5, -2), BAD);
        due("body 1", x.keep(5, 1), BAD);
        due("shelf 6", x.keep(6, 0), BAD);
        due("shelf -1", x.keep(-1, -1), BAD);
        x.row(5, 3, 4);
        due("over a row", x.keep(5, 0), 1);
        due("the row is gone", x.put(5, 0, 1), -12);
    }

    private static void row() {
        promise = 35;
        MapFold x = new MapFold();
        due("60", x.row(0, 4, 60), 1);
        due("element 59", x.element(0, 59), 0);
        due("61", x.row(0, 4, 61), BAD);
        due("sort 5", x.row(0, 5, 1), BAD);
        due("sort -1", x.row(0, -1, 1), BAD);
        due("shelf 6", x.row(6, 0, 1), BAD);
        due("shelf -1", x.row(-1, 0, 1), BAD);
        due("-1", x.row(0, 0, -1), -14);
        due("least int", x.row(0, 0, Integer.MIN_VALUE), -14);
        due("BAD ahead of -14", x.row(0, 5, -1), BAD);
        due("the row stays", x.element(0, 59), 0);
        due("0", x.row(0, 0, 0), 1);
        due("no element", x.put(0, 0, 0), -13);
        x.row(1, 3, 2);
        x.put(1, 0, 5);
        x.row(1, 3, 2);
        due("0 at first", x.element(1, 0), 0);
    }

    private static void put() {
        promise = 36;
        MapFold x = new MapFold();
        due("shelf 6", x.put(6, 0, 0), BAD);
        due("shelf -1", x.put(-1, 0, 0), BAD);
        due("nothing", x.put(0, -1, 0), -11);
        x.body(0);
        x.keep(0, 0);
        due("a folding", x.put(0, -1, 0), -12);
        x.row(0, 0, 3);
        due("place 3", x.put(0, 3, 0), -13);
        due("place -1", x.put(0, -1, 0), -13);
        due("highest place", x.put(0, Integer.MAX_VALUE, 0), -13);
        long v = 0x1234567880808182L;
        long[] kept = {(byte) 0x82, (short) 0x8182, 0x80808182, v, 1};
        for (int sort = 0; sort < 5; sort++) {
            x.row(1, sort, 3);
            due("put", x.put(1, 2, v), 1);
            due("sort " + sort, x.element(1, 2), kept[sort]);
            due("its neighbour", x.element(1, 1), 0);
        }
        x.put(1, 2, 0);
        due("false", x.element(1, 2), 0);
        x.put(1, 2, 256);
        due("true by a high bit", x.element(1, 2), 1);
        x.put(1, 2, 1L << 40);
        due("true by a higher bit", x.element(1, 2), 1);
        x.put(1, 2, -1);
        due("true by -1", x.element(1, 2), 1);
    }

    private static void element() {
        promise = 37;
        MapFold x = new MapFold();
        due("nothing", x.element(0, 0), Long.MIN_VALUE);
        due("shelf 6", x.element(6, 0), Long.MIN_VALUE);
        due("shelf -1", x.element(-1, 0), Long.MIN_VALUE);
        x.body(0);
        x.keep(0, 0);
        due("a folding", x.element(0, 0), Long.MIN_VALUE);
        x.row(0, 3, 2);
        x.put(0, 1, Long.MAX_VALUE);
        due("element 1", x.element(0, 1), Long.MAX_VALUE);
        due("element 2", x.element(0, 2), Long.MIN_VALUE);
        due("element -1", x.element(0, -1), Long.MIN_VALUE);
    }

    private static void shift() {
        promise = 38;
        MapFold x = new MapFold();
        due("nothing", x.shift(0, 0, 1, 0, 0), -11);
        x.row(0, 2, 6);
        due("nothing there", x.shift(0, 0, 1, 0, 0), -11);
        due("nothing from there", x.shift(1, 0, 0, 0, 0), -11);
        for (int i = 0; i < 6; i++) {
            x.put(0, i, i + 1);
        }
        due("on itself, up", x.shift(0, 0, 0, 2, 4), 4);
        due("as they were", x.element(0, 2) * 1000 + x.element(0, 3) * 100 + x.element(0, 4) * 10 + x.element(0, 5),
            1234);
        due("on itself, down", x.shift(0, 2, 0, 1, 4), 4);
        due("as they were", x.element(0, 1) * 1000 + x.element(0, 2) * 100 + x.element(0, 3) * 10 + x.element(0, 4),
            1234);
        x.row(1, 2, 3);
        due("to another", x.shift(0, 1, 1, 0, 3), 3);
        due("it came", x.element(1, 2), 3);
        due("none", x.shift(0, 6, 1, 3, 0), 0);
        for (int[] a : new int[][] {{-1, 0, 1}, {0, -1, 1}, {4, 0, 3}, {0, 1, 3}, {7, 0, 0}, {0, 4, 0}, {0, 0, -1},
                {Integer.MAX_VALUE, 0, 1}, {1, 0, Integer.MAX_VALUE}, {0, 0, Integer.MIN_VALUE}}) {
            due("place " + a[0] + ", " + a[1] + ", " + a[2], x.shift(0, a[0], 1, a[1], a[2]), -13);
        }
        x.row(2, 3, 3);
        due("unlike sorts", x.shift(0, 9, 2, 0, 1), -12);
        x.body(0);
        x.keep(3, 0);
        due("a folding", x.shift(3, 0, 0, 0, 1), -12);
        due("to a folding", x.shift(0, 0, 3, 0, 1), -12);
        due("-11 ahead of -12", x.shift(3, 0, 4, 0, 1), -11);
        due("shelf 6", x.shift(6, 0, 0, 0, 1), BAD);
        due("shelf -1", x.shift(0, 0, -1, 0, 1), BAD);
    }

    private static void taken() {
        promise = 39;
        MapFold x = new MapFold();
        String[] above = {"0", "01", "02", "023", "04", "0235", "016", "047"};
        for (int kind = 0; kind < 8; kind++) {
            x.body(kind);
            x.keep(1, kind);
            for (int k = 0; k < 8; k++) {
                due("kind " + kind + " for " + k, x.taken(1, k), above[kind].indexOf('0' + k) >= 0 ? kind : -12);
            }
        }
        due("k 8", x.taken(1, 8), BAD);
        due("k -1", x.taken(1, -1), BAD);
        due("shelf 6", x.taken(6, 0), BAD);
        due("shelf -1", x.taken(-1, 0), BAD);
        due("nothing", x.taken(0, 0), -11);
        x.row(0, 0, 1);
        due("a row", x.taken(0, 0), -12);
    }

    private static void count() {
        promise = 40;
        MapFold x = made(37);
        x.plan(1, 1);
        x.plan(1, 1);
        x.feed(1);
        x.limit(2);
        x.limit(3);
        x.limit(4);
        x.undo();
        x.body(0);
        x.body(0);
        x.act(1, 3, 0);
        int[] due = {21, 2, 1, 2, 2, 4};
        for (int what = 0; what < 6; what++) {
            due("what " + what, x.count(what), due[what]);
        }
        due("what 6", x.count(6), BAD);
        due("what -1", x.count(-1), BAD);
    }
}
