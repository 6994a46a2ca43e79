import java.util.Random;

/** Long drawn runs of calls, each answer beside that of the plain model. */
public final class ModelTest {
    private static final int RUNS = 240, CALLS = 512;
    private static int wrong = 0;

    private final Random random;
    private final MapFold x = new MapFold();
    private final Model m = new Model();
    private final StringBuilder told = new StringBuilder();

    private ModelTest(long seed) {
        random = new Random(seed);
    }

    public static void main(String[] args) {
        for (int run = 0; run < RUNS && wrong < 5; run++) {
            new ModelTest(run).go(run);
        }
        System.out.println(wrong == 0 ? "the drawn runs are as the model's" : "drawn runs differ from the model's");
        if (wrong != 0) {
            System.exit(1);
        }
    }

    private void go(int run) {
        // Each run leans on one part of the class, or on none.
        int leaning = run % 6;
        for (int i = 0; i < CALLS; i++) {
            String call = callOne(pick(leaning));
            if (call != null) {
                wrong++;
                System.out.println("run " + run + ", call " + i + ": " + call + "\n  behind " + told);
                return;
            }
        }
    }

    private int pick(int leaning) {
        int[][] parts = {{1, 11}, {12, 20}, {21, 29}, {30, 39}, {3, 5}};
        if (leaning < 5 && random.nextInt(3) > 0) {
            int[] part = parts[leaning];
            return part[0] + random.nextInt(part[1] - part[0] + 1);
        }
        return random.nextInt(40);
    }

    /** Mostly within low and high, at times just or far beyond. */
    private int in(int low, int high) {
        int way = random.nextInt(40);
        switch (way) {
            case 0: return low - 1;
            case 1: return high + 1;
            case 2: return random.nextInt();
            case 3: return random.nextBoolean() ? Integer.MIN_VALUE : Integer.MAX_VALUE;
            case 4: return random.nextBoolean() ? low : high;
            default: return low + random.nextInt(high - low + 1);
        }
    }

    private String due(String call, long got, long want) {
        told.append(call).append('=').append(got).append(' ');
        return got == want ? null : call + " answered " + got + ", the model " + want;
    }

    private static String text(String name, long... args) {
        StringBuilder b = new StringBuilder(name).append('(');
        for (int i = 0; i < args.length; i++) {
            b.append(i == 0 ? "" : ", ").append(args[i]);
        }
        return b.append(')').toString();
    }

    private String callOne(int which) {
        if (which < 12) {
            return callSheet(which);
        }
        if (which < 21) {
            return callPlans(which);
        }
        return which < 30 ? callStrips(which) : callShelves(which);
    }

    private int field() {
        return in(0, m.count(0) - 1);
    }

    private String callSheet(int which) {
        int a;
        int b;
        switch (which) {
            case 0:
                return lookAtAll();
            case 1:
                if (random.nextInt(4) > 0) {
                    return lookAtAll();
                }
                a = 10 * in(1, 4) + in(1, random.nextBoolean() ? 4 : 8);
                return due(text("sheet", a), x.sheet(a), m.sheet(a));
            case 2:
                a = in(1, random.nextBoolean() ? 8 : 99);
                return due(text("limit", a), x.limit(a), m.limit(a));
            case 3:
                a = in(0, 255);
                return due(text("feed", a), x.feed(a), m.feed(a));
            case 4:
                return writeLaw();
            case 5: case 11:
                a = in(1, random.nextBoolean() ? 2 : 7);
                b = in(0, 7);
                return due(text("fold", a, b), x.fold(a, b), m.fold(a, b));
            case 6:
                return random.nextInt(3) > 0 ? callSheet(5) : due("flat()", x.flat(), m.flat());
            case 7:
                a = 10 * field() + in(0, 1);
                b = in(0, 2);
                return due(text("crease", a, b), x.crease(a, b), m.crease(a, b));
            case 8:
                a = in(0, 2);
                return due(text("shape", a), x.shape(a), m.shape(a));
            case 9:
                a = field();
                b = in(0, 3);
                return due(text("where", a, b), x.where(a, b), m.where(a, b));
            default:
                a = 10 * in(0, m.shape(0) - 1) + in(0, m.shape(1) - 1);
                b = in(-2, m.shape(2));
                return due(text("pile", a, b), x.pile(a, b), m.pile(a, b));
        }
    }

    /** All that can be seen of the sheet without changing it. */
    private String lookAtAll() {
        for (int what = 0; what < 3; what++) {
            String w = due(text("led", what), x.led(what), m.led(what));
            for (int fk = 0; fk < 320 && w == null; fk++) {
                if (m.crease(fk, what) != x.crease(fk, what)) {
                    w = due(text("crease", fk, what), x.crease(fk, what), m.crease(fk, what));
                }
            }
            if (w != null) {
                return w;
            }
        }
        for (int f = 0; f < m.count(0); f++) {
            for (int what = 0; what < 4; what++) {
                if (x.where(f, what) != m.where(f, what)) {
                    return due(text("where", f, what), x.where(f, what), m.where(f, what));
                }
            }
        }
        return null;
    }

    private String writeLaw() {
        StringBuilder text = new StringBuilder();
        int lines = 1 + random.nextInt(3);
        for (int i = 0; i < lines; i++) {
            text.append(i == 0 ? "" : ";").append(expression(random.nextInt(4)));
            if (random.nextInt(3) > 0) {
                text.append('?').append(expression(random.nextInt(3)));
            }
        }
        if (random.nextInt(3) == 0) {
            spoil(text);
        }
        for (int i = 0; i < text.length() && i < 121; i++) {
            int letter = text.charAt(i);
            String w = due(text("feed", letter), x.feed(letter), m.feed(letter));
            if (w != null) {
                return w;
            }
        }
        return due("law()", x.law(), m.law());
    }

    private void spoil(StringBuilder text) {
        String signs = "nwrkfb0123456789!-(()|&<=>+-*/%?; x";
        for (int n = 1 + random.nextInt(2); n > 0; n--) {
            int at = random.nextInt(text.length());
            char sign = signs.charAt(random.nextInt(signs.length()));
            switch (random.nextInt(4)) {
                case 0: text.setCharAt(at, sign); break;
                case 1: text.insert(at, sign); break;
                case 2: text.setLength(at + 1); break;
                default: text.insert(at, "-!(".charAt(random.nextInt(3))); break;
            }
        }
    }

    private String expression(int depth) {
        if (depth == 0 || random.nextInt(5) == 0) {
            return random.nextBoolean() ? "" + "nwrkfb".charAt(random.nextInt(6))
                : "" + random.nextInt(random.nextBoolean() ? 10 : 10000);
        }
        switch (random.nextInt(6)) {
            case 0: return "!" + expression(0);
            case 1: return "-" + expression(0);
            case 2: return "(" + expression(depth - 1) + ")";
            default:
                return expression(depth - 1) + "|&<=>+-*/%".charAt(random.nextInt(10)) + expression(depth - 1);
        }
    }

    private String callPlans(int which) {
        int a;
        int b;
        switch (which) {
            case 12: case 13:
                a = random.nextInt(10) == 0 ? 0 : in(1, random.nextBoolean() ? 2 : 7);
                b = in(0, 7);
                return due(text("plan", a, b), x.plan(a, b), m.plan(a, b));
            case 14:
                a = in(0, 3);
                return due(text("cost", a), x.cost(a), m.cost(a));
            case 15:
                a = 100 * field() + in(0, m.cost(0));
                b = in(0, 3);
                return due(text("lies", a, b), x.lies(a, b), m.lies(a, b));
            case 16:
                a = in(0, m.cost(0));
                b = 10 * in(0, 1) + in(0, 3);
                return due(text("top", a, b), x.top(a, b), m.top(a, b));
            case 17:
                a = in(0, m.cost(0));
                b = 100 * field() + field();
                return due(text("beside", a, b), x.beside(a, b), m.beside(a, b));
            case 18:
                if (isDear()) {
                    return null;
                }
                a = field();
                b = in(-1, 2);
                return due(text("wished", a, b), x.wished(a, b), m.wished(a, b));
            case 19:
                if (isDear()) {
                    return null;
                }
                a = in(-3, 2);
                return due(text("right", a), x.right(a), m.right(a));
            default:
                a = random.nextInt();
                b = 1000 * in(1, 20) + in(0, 100);
                int what = in(0, 1);
                return due(text("wind", a, b, what), x.wind(a, b, what), m.wind(a, b, what));
        }
    }

    /** The model goes through all rows of folds: too long for every call. */
    private boolean isDear() {
        int fields = m.count(0);
        return fields > 4 && fields <= 16 && random.nextInt(fields * fields / 10) > 0;
    }

    private int order(int n) {
        StringBuilder digits = new StringBuilder();
        for (int d = 1; d <= Math.max(1, Math.min(n, 9)); d++) {
            digits.insert(random.nextInt(digits.length() + 1), d);
        }
        int order = Integer.parseInt(digits.toString());
        int way = random.nextInt(20);
        return way == 0 ? order + in(-9, 9) : way == 1 ? in(0, order) : order;
    }

    private String callStrips(int which) {
        int n = in(2, 7);
        int a;
        switch (which) {
            case 21:
                a = order(n);
                return due(text("crosses", n, a), x.crosses(n, a), m.crosses(n, a));
            case 22:
                a = in(-1, Math.max(0, m.orders(n, -1)));
                return due(text("orders", n, a), x.orders(n, a), m.orders(n, a));
            case 23:
                a = random.nextBoolean() ? order(n) : m.orders(n, random.nextInt(Math.max(1, m.orders(n, -1))));
                return due(text("bends", n, a), x.bends(n, a), m.bends(n, a));
            case 24:
                a = in(0, n >= 2 && n <= 7 ? (1 << (n - 1)) - 1 : 3);
                int what = in(0, 1);
                return due(text("by", n, a, what), x.by(n, a, what), m.by(n, a, what));
            case 25:
                a = in(0, n >= 2 && n <= 7 ? n - 1 : 3);
                return due(text("with", n, a), x.with(n, a), m.with(n, a));
            case 26:
                return due("image()", x.image(), m.image());
            case 27:
                String w = due("back()", x.back(), m.back());
                return w != null ? w : lookAtAll();
            case 28:
                return due("undo()", x.undo(), m.undo());
            default:
                return due("redo()", x.redo(), m.redo());
        }
    }

    private String callShelves(int which) {
        int s = in(0, 5);
        int a;
        int b;
        int bodies = Math.max(1, m.count(4));
        switch (which) {
            case 30:
                a = in(0, 7);
                return due(text("body", a), x.body(a), m.body(a));
            case 31:
                return callAct(in(0, bodies - 1), in(0, 3), in(-100, 100));
            case 32:
                a = in(0, 12);
                return due(text("trace", a), x.trace(a), m.trace(a));
            case 33:
                a = in(-1, bodies - 1);
                return due(text("keep", s, a), x.keep(s, a), m.keep(s, a));
            case 34:
                a = random.nextInt(3) == 0 ? 0 : in(0, 4);
                b = in(0, random.nextInt(3) == 0 ? 60 : 20);
                return due(text("row", s, a, b), x.row(s, a, b), m.row(s, a, b));
            case 35:
                a = in(0, 19);
                long v = random.nextInt(3) == 0 ? random.nextLong() : in(0, 7);
                return due(text("put", s, a, v), x.put(s, a, v), m.put(s, a, v));
            case 36:
                a = in(0, 19);
                return due(text("element", s, a), x.element(s, a), m.element(s, a));
            case 37:
                int other = random.nextBoolean() ? s : in(0, 5);
                int i = in(0, 19);
                int j = in(0, 19);
                int n = in(0, 10);
                return due(text("shift", s, i, other, j, n), x.shift(s, i, other, j, n), m.shift(s, i, other, j, n));
            case 38:
                if (random.nextBoolean()) {
                    a = in(0, 20);
                    b = in(1, 12);
                    return due(text("plans", s, a, b), x.plans(s, a, b), m.plans(s, a, b));
                }
                a = in(0, 7);
                return due(text("taken", s, a), x.taken(s, a), m.taken(s, a));
            default:
                a = in(0, 5);
                return due(text("count", a), x.count(a), m.count(a));
        }
    }

    private String callAct(int body, int act, int with) {
        String w = due(text("act", body, act, with), x.act(body, act, with), m.act(body, act, with));
        for (int i = 0; i < 25 && w == null; i++) {
            if (x.trace(i) != m.trace(i)) {
                w = due(text("trace", i), x.trace(i), m.trace(i));
            }
        }
        return w;
    }
}
