/** The edges of promises 4 and 5: the tape, each place of the law's text, and what the law is worth. */
public final class LawEdgesTest {
    private static final int BAD = Edges.BAD, FULL = Edges.FULL;
    private static final String NAMES = "nwrkfb", DIGITS = "0123456789";
    /** What may stand where an O begins; and where six are open at once. */
    private static final String BEGIN = NAMES + DIGITS + "(!-", SIX_OPEN = NAMES + DIGITS;
    /** What may stand behind an O, by what still may come. */
    private static final String JOIN = "|&+-*/%", COMPARE = "<=>";
    private static final Edges e = new Edges();

    public static void main(String[] args) {
        feedBounds();
        feedFull();
        feedBadAheadOfFull();
        lawOfAnEmptyTape();
        lawEmptiesTheTape();
        lawFaultChangesNothingElse();
        textOf120Bytes();
        faultAtEachByte();
        faultWhereItEnds();
        digits();
        openAtOnce();
        openAtOnceByKinds();
        lines();
        firstLineThatCounts();
        noneCounts();
        heldWithin();
        wraps();
        byZero();
        towardZero();
        oneOrZero();
        binding();
        namesAtTheirEnds();
        withoutAText();
        e.end("the law's edges hold");
    }

    private static void feedBounds() {
        e.says("A byte (0 .. 255) comes to THE TAPE: how many it has. BAD");
        for (int letter = -300; letter <= 600; letter++) {
            MapFold x = new MapFold();
            boolean taken = letter >= 0 && letter <= 255;
            e.due("feed " + letter, x.feed(letter), taken ? 1 : BAD);
            e.due("bytes behind it", x.count(2), taken ? 1 : 0);
        }
        for (int letter : new int[] {-1, 256, -128, Edges.LEAST, Edges.MOST}) {
            e.unchanged("feed " + letter, Edges.RICH, x -> x.feed(letter), BAD);
        }
    }

    private static final Edges.Use FULL_TAPE = x -> {
        Edges.feedAll(x, "1+".repeat(59) + "77");
        return x.count(2);
    };

    private static void feedFull() {
        e.says("FULL (120)");
        MapFold x = new MapFold();
        for (int i = 1; i <= 120; i++) {
            e.due("byte " + i, x.feed('1'), i);
        }
        e.due("byte 121", x.feed('1'), FULL);
        e.due("120 stay", x.count(2), 120);
        e.unchanged("a full tape", FULL_TAPE, y -> y.feed('+'), FULL);
        MapFold again = Edges.made(FULL_TAPE);
        again.law();
        for (int i = 1; i <= 120; i++) {
            e.due("once more, byte " + i, again.feed('1'), i);
        }
        e.due("once more, byte 121", again.feed('1'), FULL);
    }

    private static void feedBadAheadOfFull() {
        e.says("of several the one named first: BAD, FULL");
        e.unchanged("256", FULL_TAPE, x -> x.feed(256), BAD);
        e.unchanged("-1", FULL_TAPE, x -> x.feed(-1), BAD);
        e.unchanged("255", FULL_TAPE, x -> x.feed(255), FULL);
        e.unchanged("0", FULL_TAPE, x -> x.feed(0), FULL);
    }

    private static void lawOfAnEmptyTape() {
        e.says("FAULT: .. the length, if it ends too early: of an empty TAPE 0");
        e.unchanged("a new object", Edges.NEW, MapFold::law, -100);
        e.unchanged("behind a law", x -> Edges.lawOf(x, "7"), MapFold::law, -100);
    }

    private static void lawEmptiesTheTape() {
        e.says("THE TAPE is empty then.");
        for (String text : new String[] {"n", "n+", "x", "", "1".repeat(120)}) {
            MapFold x = new MapFold();
            Edges.lawOf(x, text);
            e.due("bytes behind " + text, x.count(2), 0);
            e.due("the next byte", x.feed('n'), 1);
            e.due("that text alone", x.law(), 1);
        }
    }

    private static void lawFaultChangesNothingElse() {
        e.says("-100 less its FAULT .. What is answered so changes nothing");
        for (String text : new String[] {"x", "9+", "9;", "8)", "0?"}) {
            e.unchanged("behind a law: " + text, x -> Edges.lawOf(x, "3+r"),
                x -> Edges.lawOf(x, text), -100 - (text.equals("x") ? 0 : text.equals("8)") ? 1 : 2));
            e.unchanged("without one: " + text, Edges.NEW,
                x -> Edges.lawOf(x, text), -100 - (text.equals("x") ? 0 : text.equals("8)") ? 1 : 2));
        }
    }

    private static void textOf120Bytes() {
        e.says("a TEXT by THE TAPE (at most 120 bytes)");
        String sum = "1+".repeat(59);
        e.due("119 bytes", Edges.lawOf(new MapFold(), sum + "1"), 1);
        e.due("120 bytes", Edges.lawOf(new MapFold(), sum + "11"), 1);
        e.due("120 bytes, too short", Edges.lawOf(new MapFold(), sum + "1+"), -220);
        e.due("the 120th is wrong", Edges.lawOf(new MapFold(), sum + "1x"), -219);
        e.due("the 120th is missing", Edges.lawOf(new MapFold(), sum), -218);
        e.due("the 121st does not come", Edges.lawOf(new MapFold(), sum + "11x"), 1);
        e.due("lines", Edges.lawOf(new MapFold(), "0;".repeat(59) + "00"), 1);
        e.due("all of them count", worth("0-".repeat(58) + "-9-9"), 0);
        e.due("all of them count", worth("0-".repeat(58) + "0--9"), 9);
        e.due("the last line counts", worth("0?9;".repeat(29) + "1?07"), 7);
        e.due("sums of names", worth("n+".repeat(58) + "n<59"), 0);
        e.due("sums of names", worth("n+".repeat(58) + "n<60"), 1);
        e.due("a row of minus signs, each with its O", worth("1" + "--1".repeat(39) + "=40"), 0);
        e.due("a row of minus signs, each with its O", worth("01" + "--1".repeat(38) + "=39"), 1);
    }

    /** Each of the 256 bytes behind a beginning: it goes on with just those that are told. */
    private static void after(String begin, String goesOn) {
        for (int letter = 0; letter < 256; letter++) {
            MapFold x = new MapFold();
            Edges.feedAll(x, begin);
            x.feed(letter);
            int answer = x.law();
            boolean fits = letter != 0 && goesOn.indexOf(letter) >= 0;
            boolean faultThere = answer == -100 - begin.length();
            e.due("a fault at byte " + letter + " behind " + begin + " (" + answer + ")", faultThere ? 1 : 0,
                fits ? 0 : 1);
            if (fits && answer != 1) {
                e.due("it ends too early behind " + begin + (char) letter, answer, -100 - begin.length() - 1);
            }
        }
    }

    private static void faultAtEachByte() {
        e.says("FAULT: the place (from 0) of the first byte with which no TEXT goes on");
        after("", BEGIN);
        String[] begun = {"n;", "n?", "n?w;", "(", "((((((n)+", "!", "-", "n|", "n&", "n<", "n=", "n>", "n+", "n-", "n*",
            "n/", "n%", "!!!!!", "(((((", "-----", "n;(", "1?(", "!(", "(!"};
        for (String begin : begun) {
            after(begin, BEGIN);
        }
        for (String begin : new String[] {"n", "(n)", "!n", "-n", "1234", "n+w", "n*w", "n|w", "n&w", "n<w&r", "n<w|r",
            "n;w", "n?w;r", "!!!!!!n", "((((((n))))))", "(n<w)", "!(n<w)", "n-w"}) {
            after(begin, JOIN + COMPARE + ";?");
        }
        for (String begin : new String[] {"n<w", "n=w", "n>w", "n|w<r", "n+w<r*k", "n<(w)"}) {
            after(begin, JOIN + ";?");
        }
        after("n?w", JOIN + COMPARE + ";");
        after("n?w<r", JOIN + ";");
        after("(n", JOIN + COMPARE + ")");
        after("((n)", JOIN + COMPARE + ")");
        after("(n<w", JOIN + ")");
        after("n?(w", JOIN + COMPARE + ")");
        after("1", JOIN + COMPARE + ";?" + DIGITS);
        after("123", JOIN + COMPARE + ";?" + DIGITS);
        after("(123", JOIN + COMPARE + ")" + DIGITS);
        after("n?123", JOIN + COMPARE + ";" + DIGITS);
    }

    private static void faultWhereItEnds() {
        e.says("FAULT: .. the length, if it ends too early");
        for (String text : new String[] {"", "n;", "n?", "n?w;", "(", "(n", "((n)", "n+", "n<", "!", "-", "!-(", "n|w&",
            "((((((", "!!!!!!", "n?(w", "0000+", "(n)*"}) {
            e.due("law " + text, Edges.lawOf(new MapFold(), text), -100 - text.length());
        }
    }

    private static void digits() {
        e.says("a number (1 to 4 digits)");
        e.due("one", Edges.lawOf(new MapFold(), "0"), 1);
        e.due("four", Edges.lawOf(new MapFold(), "9999"), 1);
        e.due("five", Edges.lawOf(new MapFold(), "99999"), -104);
        e.due("five, of noughts", Edges.lawOf(new MapFold(), "00001"), -104);
        e.due("five, later", Edges.lawOf(new MapFold(), "n+12345"), -106);
        e.due("five, in brackets", Edges.lawOf(new MapFold(), "(12345"), -105);
        e.due("its highest value", worth("9999=9998+1"), 1);
        e.due("noughts ahead", worth("0008"), 8);
        e.due("its lowest value", worth("0000+3"), 3);
        e.due("the digit behind '8'", worth("9"), 9);
    }

    private static void openAtOnce() {
        e.says("At most 6 of ( ! - ahead of an O are open at once.");
        for (int many = 1; many <= 9; many++) {
            int due = many <= 6 ? 1 : -106;
            e.due(many + " !", Edges.lawOf(new MapFold(), "!".repeat(many) + "n"), due);
            e.due(many + " -", Edges.lawOf(new MapFold(), "-".repeat(many) + "n"), due);
            e.due(many + " (", Edges.lawOf(new MapFold(), "(".repeat(many) + "n" + ")".repeat(many)), due);
        }
        e.due("six, then six more", Edges.lawOf(new MapFold(), "((((((n))))))*!!!!!!w"), 1);
        e.due("six, then seven", Edges.lawOf(new MapFold(), "((((((n))))))*!!!!!!!w"), -120);
        e.due("six in each line", Edges.lawOf(new MapFold(), "!!!!!!n?------w;((((((r))))))"), 1);
        e.due("seven in the second E", Edges.lawOf(new MapFold(), "n?-------w"), -108);
        e.due("seven in the second line", Edges.lawOf(new MapFold(), "n;(((((((w"), -108);
        e.due("one closed too often", Edges.lawOf(new MapFold(), "(((((!n+(w)))))))"), -116);
        e.due("behind a closed one there is room", Edges.lawOf(new MapFold(), "(((((!n+(w))))))"), 1);
        e.due("a minus between two is not open", Edges.lawOf(new MapFold(), "n-!!!!!!w"), 1);
        e.due("nor is it in brackets", Edges.lawOf(new MapFold(), "(((((n-(w))))))"), 1);
        e.due("seven behind it", Edges.lawOf(new MapFold(), "n-!!!!!!!w"), -108);
    }

    private static void openAtOnceByKinds() {
        e.says("At most 6 of ( ! - .. open at once: of all three together");
        String[] signs = {"(", "!", "-"};
        for (int mix = 0; mix < 729; mix++) {
            StringBuilder begin = new StringBuilder();
            StringBuilder close = new StringBuilder();
            for (int i = 0, rest = mix; i < 6; i++, rest /= 3) {
                begin.append(signs[rest % 3]);
                close.append(rest % 3 == 0 ? ")" : "");
            }
            e.due("six: " + begin, Edges.lawOf(new MapFold(), begin + "n" + close), 1);
            for (String sign : signs) {
                e.due("seven: " + begin + sign, Edges.lawOf(new MapFold(), begin + sign + "n"), -106);
            }
        }
    }

    private static void lines() {
        e.says("LINES, one or more, parted by ;");
        Object[][] texts = {{"n;w", 1}, {";", -100}, {"n;", -102}, {";n", -100}, {"n;;w", -102}, {"n?w;", -104},
            {"n;w;r;k;f;b", 1}, {"(n;w)", -102}, {"n?w?r", -103}, {"?n", -100}, {"n??w", -102}};
        for (Object[] t : texts) {
            e.due("law " + t[0], Edges.lawOf(new MapFold(), (String) t[0]), (Integer) t[1]);
        }
        e.due("sixty lines", Edges.lawOf(new MapFold(), "n;".repeat(59) + "n"), 1);
    }

    /** By how much the only crease of a strip of two is worn by a first bend as a valley. */
    private static int worth(String text) {
        MapFold x = Edges.sheetOf(12);
        int answer = Edges.lawOf(x, text);
        if (answer != 1) {
            return answer;
        }
        x.fold(1, 0);
        return x.crease(0, 0);
    }

    private static void firstLineThatCounts() {
        e.says("The first LINE without a first E, or whose first E is not 0, counts");
        Object[][] texts = {{"1?2;3", 2}, {"0?2;3", 3}, {"-1?2;3", 2}, {"9999?2;3", 2}, {"2;3", 2}, {"0;3", 0},
            {"0?2;1?4;3", 4}, {"0?2;0?4;3", 3}, {"1?0;3", 0}, {"0?2;0;3", 0}, {"2?3;1?4", 3}, {"!1?5;!0?6", 6}};
        for (Object[] t : texts) {
            e.due("law " + t[0], worth((String) t[0]), (Integer) t[1]);
        }
    }

    private static void noneCounts() {
        e.says("none: 0");
        e.due("one line", worth("0?9"), 0);
        e.due("three", worth("0?9;r?9;k?9"), 0);
        e.due("one that wraps to 0", worth("8192*8192*64?9"), 0);
    }

    private static void heldWithin() {
        e.says("Held within 0 .. 9.");
        Object[][] texts = {{"-1", 0}, {"0", 0}, {"1", 1}, {"8", 8}, {"9", 9}, {"10", 9}, {"11", 9}, {"9999", 9},
            {"-9999", 0}, {"8192*8192*32", 0}, {"8192*8192*32-1", 9}, {"1?10;2", 9}, {"1?-1;2", 0},
            {"9-10", 0}, {"5+5", 9}, {"5+4", 9}};
        for (Object[] t : texts) {
            e.due("law " + t[0], worth((String) t[0]), (Integer) t[1]);
        }
        e.due("what is inside is not held", worth("(10-5)"), 5);
        e.due("what is inside is not held", worth("0-3+5"), 2);
    }

    private static void wraps() {
        e.says("Ints that wrap");
        String least = "8192*8192*32";
        e.due("the highest and 1", worth("(" + least + "-1)+1=" + least), 1);
        e.due("the least less 1 is above 0", worth(least + "-1>0"), 1);
        e.due("the least is below 0", worth(least + "<0"), 1);
        e.due("the least negated", worth("-(" + least + ")=" + least), 1);
        e.due("the least by -1", worth(least + "/-1=" + least), 1);
        e.due("the least % -1", worth(least + "%-1"), 0);
        e.due("twice the least", worth(least + "*2"), 0);
        e.due("a product", worth("9999*9999*9999/9999=-9999*10-2755"), 1);
        e.due("a product", worth("9999*9999*43<0"), 0);
        e.due("a product", worth("9999*9999*22<0"), 1);
        e.due("the highest compared with the least", worth(least + "-1>" + least), 1);
    }

    private static void byZero() {
        e.says("by 0 they give 0");
        Object[][] texts = {{"5/0", 0}, {"5%0", 0}, {"0/0", 0}, {"0%0", 0}, {"-5/0", 0}, {"5/0+4", 4}, {"5%0+4", 4},
            {"9/(r-r)", 0}, {"6*(1/0)+2", 2}, {"0?1/0;3", 3}, {"1/0?5;3", 3}, {"1%0|0", 0}, {"!(1/0)", 1},
            {"8/0/0+1", 1}, {"8/(8%8)+1", 1}, {"(0|1/0)+5", 5}, {"(0&1/0)+5", 5}};
        for (Object[] t : texts) {
            e.due("law " + t[0], worth((String) t[0]), (Integer) t[1]);
        }
    }

    private static void towardZero() {
        e.says("/ and % toward 0");
        Object[][] texts = {{"7/2", 3}, {"-7/2+9", 6}, {"7/-2+9", 6}, {"-7/-2", 3}, {"7%2", 1}, {"-7%2+9", 8},
            {"7%-2", 1}, {"-7%-2+9", 8}, {"6/3", 2}, {"6%3", 0}, {"5/6", 0}, {"-5/6", 0}, {"5%6", 5}, {"-5%6+9", 4}};
        for (Object[] t : texts) {
            e.due("law " + t[0], worth((String) t[0]), (Integer) t[1]);
        }
    }

    private static void oneOrZero() {
        e.says("| & < = > ! give 1, 0");
        Object[][] texts = {{"7|8", 1}, {"7|0", 1}, {"0|7", 1}, {"0|0", 0}, {"7&8", 1}, {"7&0", 0}, {"0&7", 0},
            {"4&2", 1}, {"-1&1", 1}, {"3<4", 1}, {"4<4", 0}, {"5<4", 0}, {"3=4", 0}, {"4=4", 1}, {"5=4", 0},
            {"3>4", 0}, {"4>4", 0}, {"5>4", 1}, {"-1<0", 1}, {"0>-1", 1}, {"!0", 1}, {"!1", 0}, {"!7", 0},
            {"!-1", 0}, {"!!7", 1}, {"!!0", 0}, {"-!0+5", 4}, {"!-0", 1}};
        for (Object[] t : texts) {
            e.due("law " + t[0], worth((String) t[0]), (Integer) t[1]);
        }
    }

    private static void binding() {
        e.says("E = A { | A }. A = B { & B }. B = S, or S < S. S = P { + P, - P }. P = O { * O, / O, % O }");
        Object[][] texts = {{"1|0&0", 1}, {"(1|0)&0", 0}, {"0&0|1", 1}, {"1&2<1", 0}, {"1<2&3", 1}, {"1+1<2", 0},
            {"1<1+1", 1}, {"2+2*3", 8}, {"(1+2)*3", 9}, {"9-4-3", 2}, {"9-(4-3)", 8}, {"9-4+3", 8}, {"8/4/2", 1},
            {"8/(4/2)", 4}, {"8/4*2", 4}, {"7%4*2", 6}, {"2*7%4", 2}, {"-1+3", 2}, {"-(1+3)+9", 5}, {"!0+1", 2},
            {"!(0+1)", 0}, {"-2*-3", 6}, {"!2*3", 0}, {"3--2", 5}, {"3-!0", 2}, {"3---2", 1}};
        for (Object[] t : texts) {
            e.due("law " + t[0], worth((String) t[0]), (Integer) t[1]);
        }
    }

    private static void namesAtTheirEnds() {
        e.says("NAMES: n how many CREASES .. in all, w how WORN it was, r 1 if WRONG, k 0, 1, f the lesser FIELD, b");
        MapFold x = Edges.sheetOf(48);
        Edges.lawOf(x, "f=30");
        x.fold(7, 2);
        e.due("the highest f of the next column", x.crease(300, 0), 1);
        e.due("no other", x.crease(220, 0) + x.crease(140, 0) + x.crease(60, 0), 0);
        Edges.lawOf(x, "f=23&k=1");
        x.flat();
        x.fold(3, 6);
        e.due("the highest f of the next row", x.crease(231, 0), 1);
        e.due("k is 1 there", x.crease(221, 0), 0);
        MapFold all = Edges.sheetOf(48);
        Edges.lawOf(all, "n=16");
        int[][] folds = {{4, 0}, {2, 0}, {1, 0}, {2, 4}, {1, 4}};
        int[] bent = {4, 8, 16, 8, 16};
        for (int i = 0; i < 5; i++) {
            e.due("bent by fold " + i, all.fold(folds[i][0], folds[i][1]), bent[i]);
        }
        e.due("n 16", all.crease(0, 0), 1);
        e.due("n 8", all.crease(10, 0), 0);
        MapFold w = Edges.sheetOf(12);
        w.limit(99);
        Edges.lawOf(w, "w=0?9;w=98?1;w>88?8;9");
        for (int worn : new int[] {9, 18, 27, 36, 45, 54, 63, 72, 81, 90, 98, 99}) {
            w.flat();
            w.fold(1, 0);
            e.due("worn", w.crease(0, 0), worn);
        }
        for (int way = 0; way < 4; way++) {
            MapFold b = Edges.sheetOf(12);
            Edges.lawOf(b, "b+r*4");
            b.fold(1, way);
            e.due("b by way " + way, b.crease(0, 0), 1 + way % 2);
            b.flat();
            b.fold(1, way ^ 1);
            e.due("b and r by the other", b.crease(0, 0), 3 + 4);
        }
    }

    private static void withoutAText() {
        e.says("Without a text 1 and 2 r.");
        MapFold x = Edges.sheetOf(12);
        int[] worn = {1, 2, 5, 8, 9};
        int[] ways = {0, 2, 1, 0, 0};
        for (int i = 0; i < 5; i++) {
            x.fold(1, ways[i]);
            x.flat();
            e.due("worn behind fold " + i, x.crease(0, 0), worn[i]);
        }
        MapFold y = Edges.sheetOf(12);
        Edges.lawOf(y, "7+");
        y.fold(1, 0);
        e.due("a text with a fault is none", y.crease(0, 0), 1);
    }
}
