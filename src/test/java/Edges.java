import java.util.IdentityHashMap;
import java.util.Map;

/** What the tests of the edges share: a sentence of the document, the answer due, and what a call leaves as it was. */
final class Edges {
    static final int BAD = -1, NOT = -2, FULL = -3, STATE = -5;
    static final int NOTHING_THERE = -11, OTHER_KIND = -12, NO_PLACE = -13, SIZE_BELOW_ZERO = -14;
    static final int LEAST = Integer.MIN_VALUE, MOST = Integer.MAX_VALUE;
    /** Nothing is done: the object stays new. */
    static final Use NEW = x -> 0;
    /** An object in which every part holds something that a refused call could spoil. */
    static final Use RICH = Edges::enrich;

    /** Some calls on an object; the last one's answer. */
    interface Use {
        long on(MapFold x);
    }

    private final Map<Use, String> states = new IdentityHashMap<>();
    private String sentence = "";
    private int wrong;

    /** The sentence of the document that the checks behind it are about. */
    void says(String words) {
        sentence = words;
    }

    void due(String what, long got, long want) {
        if (got != want) {
            fault(what + " answered " + got + ", due is " + want);
        }
    }

    void same(String what, String got, String want) {
        if (!got.equals(want)) {
            int at = 0;
            while (at < got.length() && at < want.length() && got.charAt(at) == want.charAt(at)) {
                at++;
            }
            int from = Math.max(0, at - 40);
            fault(what + " changed something:\n  " + got.substring(from, Math.min(got.length(), at + 40))
                + "\n  " + want.substring(from, Math.min(want.length(), at + 40)));
        }
    }

    private void fault(String told) {
        wrong++;
        System.out.println("'" + sentence + "': " + told);
    }

    /** The call, a refused one or one that only asks, answers so behind the others, and changes nothing. */
    void unchanged(String what, Use before, Use call, long want) {
        MapFold x = new MapFold();
        before.on(x);
        due(what, call.on(x), want);
        same(what, state(both(before, call)), states.computeIfAbsent(before, Edges::state));
    }

    void end(String told) {
        System.out.println(wrong == 0 ? told : wrong + " answers are not as due");
        if (wrong != 0) {
            System.exit(1);
        }
    }

    static Use both(Use first, Use second) {
        return x -> {
            first.on(x);
            return second.on(x);
        };
    }

    static MapFold made(Use before) {
        MapFold x = new MapFold();
        before.on(x);
        return x;
    }

    static MapFold sheetOf(int rc) {
        return made(x -> x.sheet(rc));
    }

    static void feedAll(MapFold x, String text) {
        for (int i = 0; i < text.length(); i++) {
            x.feed(text.charAt(i));
        }
    }

    static int lawOf(MapFold x, String text) {
        feedAll(x, text);
        return x.law();
    }

    private static long enrich(MapFold x) {
        x.sheet(34);
        lawOf(x, "1+r*2+k");
        x.limit(30);
        x.limit(25);
        x.limit(40);
        x.undo();
        x.fold(2, 0);
        x.fold(1, 5);
        x.flat();
        x.fold(2, 1);
        x.image();
        x.fold(1, 2);
        x.plan(1, 0);
        x.plan(2, 6);
        x.plan(1, 3);
        x.plan(7, 7);
        for (int kind = 0; kind < 8; kind++) {
            x.body(kind);
        }
        x.act(7, 3, 5);
        x.keep(1, 5);
        x.row(2, 0, 60);
        for (int i = 0; i < 60; i++) {
            x.put(2, i, 1 + i % 7);
        }
        x.row(3, 3, 3);
        x.put(3, 1, Long.MAX_VALUE);
        x.row(4, 4, 2);
        x.put(4, 1, 1);
        x.row(5, 1, 0);
        feedAll(x, "n+");
        return 0;
    }

    /** All that can be seen of an object behind some calls; each look has an object of its own, none over 512 calls. */
    static String state(Use before) {
        StringBuilder b = new StringBuilder();
        look(b.append("shape "), before, Edges::lookAtShape);
        look(b.append("\ncreases "), before, Edges::lookAtCreases);
        look(b.append("\nplan "), before, Edges::lookAtPlan);
        look(b.append("\nlaw "), before, Edges::lookAtLaw);
        look(b.append("\ntape "), before, (x, out) -> {
            out.append(x.law()).append(' ');
            lookAtLaw(x, out);
        });
        look(b.append("\nimage "), before, (x, out) -> {
            out.append(x.back()).append(' ');
            lookAtShape(x, out);
            lookAtCreases(x, out);
        });
        look(b.append("\nbodies "), before, Edges::lookAtBodies);
        for (int shelf = 0; shelf < 6; shelf++) {
            int s = shelf;
            look(b.append("\nshelf "), before, (x, out) -> lookAtShelf(x, s, out));
        }
        lookAtChanges(b.append("\nchanges "), before);
        return b.toString();
    }

    private interface Look {
        void at(MapFold x, StringBuilder out);
    }

    private static void look(StringBuilder out, Use before, Look view) {
        view.at(made(before), out);
    }

    private static void lookAtShape(MapFold x, StringBuilder out) {
        for (int what = 0; what < 6; what++) {
            out.append(x.count(what)).append(' ').append(x.shape(what)).append(' ').append(x.led(what)).append(' ');
        }
        for (int field = 0; field < 32; field++) {
            for (int what = 0; what < 4; what++) {
                out.append(x.where(field, what)).append(' ');
            }
        }
    }

    private static void lookAtCreases(MapFold x, StringBuilder out) {
        for (int field = 0; field < 32; field++) {
            for (int k = 0; k < 2; k++) {
                out.append(x.crease(10 * field + k, 0)).append('/').append(x.crease(10 * field + k, 1)).append(' ');
            }
        }
    }

    private static void lookAtPlan(MapFold x, StringBuilder out) {
        for (int what = 0; what < 4; what++) {
            out.append(x.cost(what)).append(' ');
        }
        x.sheet(48);
        for (int field : new int[] {0, 9, 18, 31}) {
            for (int n = 0; n < 13; n++) {
                for (int what = 0; what < 4; what++) {
                    out.append(x.lies(100 * field + n, what)).append(' ');
                }
            }
        }
    }

    private static void lookAtLaw(MapFold x, StringBuilder out) {
        x.sheet(33);
        x.limit(99);
        int[][] folds = {{1, 0}, {1, 1}, {2, 4}, {2, 5}, {1, 6}};
        for (int[] fold : folds) {
            out.append(x.fold(fold[0], fold[1])).append(' ');
            x.flat();
        }
        for (int field = 0; field < 9; field++) {
            out.append(x.crease(10 * field, 0)).append('/').append(x.crease(10 * field + 1, 0)).append(' ');
        }
    }

    private static void lookAtBodies(MapFold x, StringBuilder out) {
        for (int i = -1; i < 26; i++) {
            out.append(x.trace(i)).append(' ');
        }
        for (int body = 0; body < 50; body++) {
            out.append(x.act(body, 3, 5)).append(' ');
        }
    }

    private static void lookAtShelf(MapFold x, int shelf, StringBuilder out) {
        for (int i = 0; i < 60; i++) {
            out.append(x.element(shelf, i)).append(' ');
        }
        for (int kind = 0; kind < 8; kind++) {
            out.append(x.taken(shelf, kind)).append(' ');
        }
        for (int i = 0; i < 61; i++) {
            out.append(x.put(shelf, i, 0x123456789abcdef0L)).append(' ');
        }
        out.append(x.element(shelf, 0));
    }

    /** The limit now, behind each undo, and behind each redo. */
    private static void lookAtChanges(StringBuilder out, Use before) {
        out.append(made(before).limit(99)).append(" undo ");
        lookStepwise(out, before, MapFold::undo);
        lookStepwise(out.append(" redo "), before, MapFold::redo);
    }

    private static void lookStepwise(StringBuilder out, Use before, Use step) {
        for (int steps = 1; steps <= 42; steps++) {
            MapFold x = made(before);
            long answer = 0;
            for (int i = 0; i < steps; i++) {
                answer = step.on(x);
            }
            out.append(answer).append(':').append(x.limit(99)).append(' ');
            if (answer == STATE) {
                return;
            }
        }
    }
}
