import java.util.ArrayList;
import java.util.HashSet;
import java.util.List;
import java.util.Map;
import java.util.Set;
import java.util.TreeMap;

/**
 * The document once more, as plainly and as slowly as can be, by other means than the class:
 * piles as lists, the law read anew for each crease, faults by trying how a text goes on, all rows of
 * folds, all orders, foldings as Java classes and shelves as Java arrays whose refusals Java tells.
 */
final class Model {
    static final int BAD = -1, NOT = -2, FULL = -3, STATE = -5;

    // ---- the sheet

    /** A field's number and its face. */
    private record Leaf(int field, int face) { }

    private record Place(int row, int col) implements Comparable<Place> {
        public int compareTo(Place o) {
            return row != o.row ? Integer.compare(row, o.row) : Integer.compare(col, o.col);
        }
    }

    private static final class State {
        int rows, cols;
        TreeMap<Place, List<Leaf>> piles = new TreeMap<>();
        TreeMap<Integer, Integer> worn = new TreeMap<>();
        TreeMap<Integer, Integer> last = new TreeMap<>();
        int folds, wrong, more;

        State(int rows, int cols) {
            this.rows = rows;
            this.cols = cols;
            for (int f = 0; f < rows * cols; f++) {
                for (int k = 0; k < 2; k++) {
                    if (k == 0 ? (f + 1) % cols != 0 : f / cols + 1 < rows) {
                        worn.put(10 * f + k, 0);
                        last.put(10 * f + k, 0);
                    }
                }
            }
            flatten();
        }

        State(State o) {
            rows = o.rows;
            cols = o.cols;
            piles = new TreeMap<>(o.piles);
            worn = new TreeMap<>(o.worn);
            last = new TreeMap<>(o.last);
            folds = o.folds;
            wrong = o.wrong;
            more = o.more;
        }

        void flatten() {
            piles = new TreeMap<>();
            for (int f = 0; f < rows * cols; f++) {
                piles.put(new Place(f / cols, f % cols), List.of(new Leaf(f, 0)));
            }
        }

        int high() {
            return piles.keySet().stream().mapToInt(Place::row).max().getAsInt() + 1;
        }

        int wide() {
            return piles.keySet().stream().mapToInt(Place::col).max().getAsInt() + 1;
        }

        int torn(int limit) {
            return (int) worn.values().stream().filter(w -> w >= limit).count();
        }

        Place placeOf(int field) {
            for (Map.Entry<Place, List<Leaf>> e : piles.entrySet()) {
                for (Leaf leaf : e.getValue()) {
                    if (leaf.field == field) {
                        return e.getKey();
                    }
                }
            }
            return null;
        }

        int tell(int field, int what) {
            Place p = placeOf(field);
            List<Leaf> pile = piles.get(p);
            int level = 0;
            while (pile.get(level).field != field) {
                level++;
            }
            return new int[] {p.row, p.col, level, pile.get(level).face}[what];
        }

        int topOf(Place p) {
            List<Leaf> pile = piles.get(p);
            return pile.get(pile.size() - 1).field;
        }
    }

    private State now = new State(2, 4);
    private State image;
    private int limit = 20;
    private String lawText = "";
    private String tape = "";
    private final List<int[]> plan = new ArrayList<>();

    private static boolean can(State s, int line, int way) {
        return line >= 1 && line < (way < 4 ? s.wide() : s.high());
    }

    private int bend(State s, int line, int way) {
        boolean byCols = way < 4;
        boolean fromStart = way % 4 < 2;
        boolean over = way % 2 == 0;
        TreeMap<Integer, Integer> bent = new TreeMap<>();
        for (int crease : s.worn.keySet()) {
            int f = crease / 10;
            int g = crease % 10 == 0 ? f + 1 : f + s.cols;
            Place a = s.placeOf(f);
            Place b = s.placeOf(g);
            int alongA = byCols ? a.col : a.row;
            int alongB = byCols ? b.col : b.row;
            boolean level = byCols ? a.row == b.row : a.col == b.col;
            boolean parted = Math.min(alongA, alongB) == line - 1 && Math.max(alongA, alongB) == line;
            if (!level || !parted || s.worn.get(crease) >= limit) {
                continue;
            }
            int comes = alongA < alongB == fromStart ? f : g;
            boolean faceUp = s.tell(comes, 3) == 0;
            bent.put(crease, faceUp ? (over ? 1 : 2) : (over ? 2 : 1));
        }
        for (int crease : bent.keySet()) {
            int b = bent.get(crease);
            int r = s.last.get(crease) == 3 - b ? 1 : 0;
            int w = s.worn.get(crease);
            int worth = worth(lawText, bent.size(), w, r, crease % 10, crease / 10, b);
            int then = Math.min(99, w + worth);
            s.worn.put(crease, then);
            s.last.put(crease, b);
            s.more += then - w;
            s.wrong += r;
        }
        return bent.size();
    }

    private static void turn(State s, int line, int way) {
        boolean byCols = way < 4;
        boolean fromStart = way % 4 < 2;
        boolean over = way % 2 == 0;
        TreeMap<Place, List<Leaf>> then = new TreeMap<>();
        List<Place> moving = new ArrayList<>();
        for (Place p : s.piles.keySet()) {
            if ((byCols ? p.col : p.row) < line == fromStart) {
                moving.add(p);
            } else {
                then.put(p, s.piles.get(p));
            }
        }
        for (Place p : moving) {
            Place to = byCols ? new Place(p.row, 2 * line - 1 - p.col) : new Place(2 * line - 1 - p.row, p.col);
            List<Leaf> turned = new ArrayList<>();
            for (Leaf leaf : s.piles.get(p)) {
                turned.add(0, new Leaf(leaf.field, 1 - leaf.face));
            }
            List<Leaf> there = then.getOrDefault(to, List.of());
            List<Leaf> whole = new ArrayList<>(over ? there : turned);
            whole.addAll(over ? turned : there);
            then.put(to, whole);
        }
        int leastRow = then.keySet().stream().mapToInt(Place::row).min().getAsInt();
        int leastCol = then.keySet().stream().mapToInt(Place::col).min().getAsInt();
        s.piles = new TreeMap<>();
        then.forEach((p, pile) -> s.piles.put(new Place(p.row - leastRow, p.col - leastCol), pile));
    }

    private int foldOn(State s, int line, int way) {
        int bent = bend(s, line, way);
        turn(s, line, way);
        s.folds++;
        return bent;
    }

    int sheet(int rc) {
        if (rc < 0 || rc / 10 < 1 || rc / 10 > 4 || rc % 10 < 1 || rc % 10 > 8) {
            return BAD;
        }
        int had = now.rows * 10 + now.cols;
        now = new State(rc / 10, rc % 10);
        return had;
    }

    private final List<Integer> past = new ArrayList<>();
    private final List<Integer> future = new ArrayList<>();

    int limit(int v) {
        if (v < 1 || v > 99) {
            return BAD;
        }
        int was = limit;
        if (v != was) {
            past.add(was);
            if (past.size() > 40) {
                past.remove(0);
            }
            future.clear();
            limit = v;
        }
        return was;
    }

    int undo() {
        if (past.isEmpty()) {
            return STATE;
        }
        future.add(limit);
        limit = past.remove(past.size() - 1);
        return past.size();
    }

    int redo() {
        if (future.isEmpty()) {
            return STATE;
        }
        past.add(limit);
        limit = future.remove(future.size() - 1);
        return future.size();
    }

    int feed(int letter) {
        if (letter < 0 || letter > 255) {
            return BAD;
        }
        if (tape.length() == 120) {
            return FULL;
        }
        tape += (char) letter;
        return tape.length();
    }

    int law() {
        String text = tape;
        tape = "";
        int fault = faultOf(text);
        if (fault >= 0) {
            return -100 - fault;
        }
        lawText = text;
        return 1;
    }

    int fold(int line, int way) {
        if (way < 0 || way > 7) {
            return BAD;
        }
        return can(now, line, way) ? foldOn(now, line, way) : NOT;
    }

    int flat() {
        int piles = now.piles.size();
        now.flatten();
        return piles;
    }

    int crease(int fk, int what) {
        if (!now.worn.containsKey(fk) || what < 0 || what > 2) {
            return BAD;
        }
        return new int[] {now.worn.get(fk), now.last.get(fk), now.worn.get(fk) >= limit ? 1 : 0}[what];
    }

    int shape(int what) {
        switch (what) {
            case 0: return now.high();
            case 1: return now.wide();
            case 2: return now.piles.values().stream().mapToInt(List::size).max().getAsInt();
            default: return BAD;
        }
    }

    int where(int field, int what) {
        return field < 0 || field >= now.rows * now.cols || what < 0 || what > 3 ? BAD : now.tell(field, what);
    }

    int pile(int rc, int i) {
        List<Leaf> pile = rc < 0 ? null : now.piles.get(new Place(rc / 10, rc % 10));
        if (pile == null || i < -2 || i >= pile.size()) {
            return BAD;
        }
        return i == -2 ? pile.size() : pile.get(i == -1 ? pile.size() - 1 : i).field;
    }

    int led(int what) {
        return what < 0 || what > 2 ? BAD : new int[] {now.folds, now.wrong, now.torn(limit)}[what];
    }

    int image() {
        image = new State(now);
        return now.folds;
    }

    int back() {
        if (image == null) {
            return STATE;
        }
        now = new State(image);
        return now.folds;
    }

    // ---- the law's text: all the places at which a part that begins at a place may end

    private static Set<Integer> ends(String t, char part, int from, int open) {
        Set<Integer> out = new HashSet<>();
        switch (part) {
            case 'T': return row(t, 'L', ";", from, open, 999);
            case 'L':
                for (int e : ends(t, 'E', from, open)) {
                    out.add(e);
                    if (sign(t, e, "?")) {
                        out.addAll(ends(t, 'E', e + 1, open));
                    }
                }
                return out;
            case 'E': return row(t, 'A', "|", from, open, 999);
            case 'A': return row(t, 'B', "&", from, open, 999);
            case 'B': return row(t, 'S', "<=>", from, open, 1);
            case 'S': return row(t, 'P', "+-", from, open, 999);
            case 'P': return row(t, 'O', "*/%", from, open, 999);
            default:
                for (int n = 1; n <= 4 && sign(t, from + n - 1, "0123456789"); n++) {
                    out.add(from + n);
                }
                if (sign(t, from, "nwrkfb")) {
                    out.add(from + 1);
                }
                if (open < 6 && sign(t, from, "!-")) {
                    out.addAll(ends(t, 'O', from + 1, open + 1));
                }
                if (open < 6 && sign(t, from, "(")) {
                    for (int e : ends(t, 'E', from + 1, open + 1)) {
                        if (sign(t, e, ")")) {
                            out.add(e + 1);
                        }
                    }
                }
                return out;
        }
    }

    private static Set<Integer> row(String t, char part, String signs, int from, int open, int most) {
        Set<Integer> out = new HashSet<>();
        Set<Integer> latest = ends(t, part, from, open);
        for (int n = 0; !latest.isEmpty(); n++) {
            out.addAll(latest);
            Set<Integer> next = new HashSet<>();
            for (int e : latest) {
                if (n < most && sign(t, e, signs)) {
                    next.addAll(ends(t, part, e + 1, open));
                }
            }
            latest = next;
        }
        return out;
    }

    private static boolean sign(String t, int at, String signs) {
        return at < t.length() && signs.indexOf(t.charAt(at)) >= 0;
    }

    private static boolean isText(String t) {
        return ends(t, 'T', 0, 0).contains(t.length());
    }

    private static boolean goesOn(String t) {
        for (String more : new String[] {"", "1"}) {
            for (int n = 0; n <= 6; n++) {
                if (isText(t + more + ")".repeat(n))) {
                    return true;
                }
            }
        }
        return false;
    }

    private static int faultOf(String t) {
        if (isText(t)) {
            return -1;
        }
        int low = 0;
        while (low < t.length() && goesOn(t.substring(0, low + 1))) {
            low++;
        }
        return low;
    }

    /** Splits at the last sign of the loosest sort outside all brackets: another way than to read on. */
    private static int worth(String text, int... names) {
        if (text.isEmpty()) {
            return 1 + 2 * names[2];
        }
        for (String line : text.split(";")) {
            int ask = line.indexOf('?');
            if (ask < 0 || value(line.substring(0, ask), names) != 0) {
                return Math.max(0, Math.min(9, value(line.substring(ask + 1), names)));
            }
        }
        return 0;
    }

    private static int value(String e, int[] names) {
        for (String signs : new String[] {"|", "&", "<=>", "+-", "*/%"}) {
            int depth = 0;
            for (int i = e.length() - 1; i > 0; i--) {
                depth += e.charAt(i) == ')' ? 1 : e.charAt(i) == '(' ? -1 : 0;
                boolean behindOne = Character.isLetterOrDigit(e.charAt(i - 1)) || e.charAt(i - 1) == ')';
                if (depth == 0 && behindOne && signs.indexOf(e.charAt(i)) >= 0) {
                    return join(value(e.substring(0, i), names), e.charAt(i), value(e.substring(i + 1), names));
                }
            }
        }
        if (e.charAt(0) == '!') {
            return value(e.substring(1), names) == 0 ? 1 : 0;
        }
        if (e.charAt(0) == '-') {
            return -value(e.substring(1), names);
        }
        if (e.charAt(0) == '(') {
            return value(e.substring(1, e.length() - 1), names);
        }
        int name = "nwrkfb".indexOf(e.charAt(0));
        return name >= 0 ? names[name] : Integer.parseInt(e);
    }

    private static int join(int a, char sign, int b) {
        switch (sign) {
            case '|': return (a == 0 ? 0 : 1) | (b == 0 ? 0 : 1);
            case '&': return (a == 0 ? 0 : 1) & (b == 0 ? 0 : 1);
            case '<': return a < b ? 1 : 0;
            case '=': return a == b ? 1 : 0;
            case '>': return a > b ? 1 : 0;
            case '+': return a + b;
            case '-': return a - b;
            case '*': return a * b;
            case '/': return b == 0 ? 0 : a / b;
            default: return b == 0 ? 0 : a % b;
        }
    }

    // ---- plans

    private State begun() {
        State s = new State(now);
        s.folds = 0;
        s.wrong = 0;
        s.more = 0;
        s.flatten();
        return s;
    }

    /** The states behind 0, 1, .. CAN folds. */
    private List<State> tried() {
        List<State> out = new ArrayList<>(List.of(begun()));
        for (int[] f : plan) {
            State s = new State(out.get(out.size() - 1));
            if (!can(s, f[0], f[1])) {
                break;
            }
            foldOn(s, f[0], f[1]);
            out.add(s);
        }
        return out;
    }

    int plan(int line, int way) {
        if (line == 0) {
            plan.clear();
            return 0;
        }
        if (line < 1 || line > 7 || way < 0 || way > 7) {
            return BAD;
        }
        if (plan.size() == 12) {
            return FULL;
        }
        plan.add(new int[] {line, way});
        return plan.size();
    }

    int plans(int shelf, int i, int n) {
        if (shelf < 0 || shelf > 5 || n < 1 || n > 12) {
            return BAD;
        }
        if (shelves[shelf] == null) {
            return 0;
        }
        if (!(shelves[shelf] instanceof byte[] row)) {
            return -12;
        }
        for (int came = 0; came < n; came++) {
            int line;
            int way;
            try {
                line = row[i + 2 * came];
                way = row[i + 2 * came + 1];
            } catch (ArrayIndexOutOfBoundsException e) {
                return came;
            }
            if (line == 0 || plan(line, way) < 0) {
                return came;
            }
        }
        return n;
    }

    int cost(int what) {
        if (what < 0 || what > 3) {
            return BAD;
        }
        List<State> all = tried();
        State end = all.get(all.size() - 1);
        return new int[] {all.size() - 1, end.more, end.wrong, end.torn(limit) - now.torn(limit)}[what];
    }

    int lies(int fn, int what) {
        if (fn < 0 || fn / 100 >= now.rows * now.cols || what < 0 || what > 3 || fn % 100 >= tried().size()) {
            return BAD;
        }
        return tried().get(fn % 100).tell(fn / 100, what);
    }

    int top(int n, int rc) {
        if (n < 0 || rc < 0 || n >= tried().size()) {
            return BAD;
        }
        State s = tried().get(n);
        Place p = new Place(rc / 10, rc % 10);
        return s.piles.containsKey(p) ? s.topOf(p) : BAD;
    }

    int beside(int n, int fg) {
        int fields = now.rows * now.cols;
        if (fg < 0 || fg / 100 >= fields || fg % 100 >= fields || fg / 100 == fg % 100) {
            return BAD;
        }
        if (n < 0 || n >= tried().size()) {
            return BAD;
        }
        State s = tried().get(n);
        Place p = s.placeOf(fg / 100);
        Place q = s.placeOf(fg % 100);
        boolean both = s.topOf(p) == fg / 100 && s.topOf(q) == fg % 100;
        boolean near = p.row == q.row && Math.abs(p.col - q.col) == 1
            || p.col == q.col && Math.abs(p.row - q.row) == 1;
        return both && near ? 1 : 0;
    }

    /** All rows of folds that make one pile, in their order: state and folds. */
    private record Made(State end, List<Integer> folds) { }

    private void makeAll(State s, List<Integer> folds, List<Made> out, boolean bending) {
        if (s.piles.size() == 1) {
            out.add(new Made(s, folds));
        }
        if (folds.size() == 3) {
            return;
        }
        for (int line = 1; line <= 7; line++) {
            for (int way = 0; way <= 7; way++) {
                if (can(s, line, way)) {
                    State then = new State(s);
                    if (bending) {
                        bend(then, line, way);
                    }
                    turn(then, line, way);
                    List<Integer> more = new ArrayList<>(folds);
                    more.add(10 * line + way);
                    makeAll(then, more, out, bending);
                }
            }
        }
    }

    int wished(int field, int i) {
        if (field < 0 || field >= now.rows * now.cols || i < -1 || i > 2) {
            return BAD;
        }
        if (now.rows * now.cols > 16) {
            return STATE;
        }
        List<Made> all = new ArrayList<>();
        makeAll(begun(), List.of(), all, false);
        Made best = null;
        for (Made m : all) {
            if (m.end.topOf(new Place(0, 0)) == field && (best == null || m.folds.size() < best.folds.size())) {
                best = m;
            }
        }
        if (best == null) {
            return NOT;
        }
        return i == -1 ? best.folds.size() : i < best.folds.size() ? best.folds.get(i) : BAD;
    }

    int right(int what) {
        if (what < -3 || what > 2) {
            return BAD;
        }
        if (now.rows * now.cols > 16) {
            return STATE;
        }
        List<Made> all = new ArrayList<>();
        makeAll(begun(), List.of(), all, true);
        if (all.isEmpty()) {
            return NOT;
        }
        Made best = all.get(0);
        for (Made m : all) {
            long mine = m.end.wrong * 1000000L + m.end.more * 10L + m.folds.size();
            long its = best.end.wrong * 1000000L + best.end.more * 10L + best.folds.size();
            if (mine < its) {
                best = m;
            }
        }
        switch (what) {
            case -1: return best.end.wrong;
            case -2: return best.end.more;
            case -3: return best.folds.size();
            default: return what < best.folds.size() ? best.folds.get(what) : BAD;
        }
    }

    int wind(int seed, int nh, int what) {
        if (nh < 1000 || nh / 1000 > 20 || nh % 1000 > 100 || what < 0 || what > 1) {
            return BAD;
        }
        int can = tried().size() - 1;
        int z = seed;
        int wrong = 0;
        int more = 0;
        for (int i = 0; i < nh / 1000; i++) {
            State s = begun();
            for (int[] f : plan.subList(0, can)) {
                z = z * 1103515245 + 12345;
                boolean other = (z >>> 8) % 100 < nh % 1000;
                foldOn(s, f[0], !other ? f[1] : f[1] % 2 == 0 ? f[1] + 1 : f[1] - 1);
            }
            wrong += s.wrong;
            more += s.more;
        }
        return (what == 0 ? wrong : more) / (nh / 1000);
    }

    // ---- strips

    private static boolean isOrder(int n, int order) {
        String digits = Integer.toString(order);
        if (n < 2 || n > 7 || digits.length() != n) {
            return false;
        }
        for (int d = 1; d <= n; d++) {
            if (digits.indexOf('0' + d) < 0) {
                return false;
            }
        }
        return true;
    }

    private static int level(int order, int field) {
        return Integer.toString(order).indexOf('1' + field);
    }

    private static int between(int order, int lesser, int field) {
        int a = level(order, lesser);
        int b = level(order, lesser + 1);
        int x = level(order, field);
        return a < x && x < b || b < x && x < a ? 1 : 0;
    }

    private static int crossing(int n, int order) {
        for (int i = 0; i + 1 < n; i++) {
            for (int j = i + 1; j + 1 < n; j++) {
                boolean oneSide = i % 2 == j % 2;
                if (oneSide && between(order, i, j) + between(order, i, j + 1) == 1
                        && between(order, j, i) + between(order, j, i + 1) == 1) {
                    return 10 * i + j;
                }
            }
        }
        return NOT;
    }

    private static final Map<Integer, List<Integer>> ALL = new TreeMap<>();

    private static List<Integer> clean(int n) {
        return ALL.computeIfAbsent(n, k -> {
            List<Integer> out = new ArrayList<>();
            for (int order = (int) Math.pow(10, n - 1); order < (int) Math.pow(10, n); order++) {
                if (isOrder(n, order) && crossing(n, order) == NOT) {
                    out.add(order);
                }
            }
            return out;
        });
    }

    private static int bitsOf(int n, int order) {
        int bits = 0;
        for (int i = 0; i + 1 < n; i++) {
            boolean under = level(order, i) < level(order, i + 1);
            if (i % 2 == 0 ? under : !under) {
                bits += 1 << i;
            }
        }
        return bits;
    }

    int crosses(int n, int order) {
        return isOrder(n, order) ? crossing(n, order) : BAD;
    }

    int orders(int n, int i) {
        if (n < 2 || n > 7 || i < -1 || i >= clean(n).size()) {
            return BAD;
        }
        return i == -1 ? clean(n).size() : clean(n).get(i);
    }

    int bends(int n, int order) {
        return !isOrder(n, order) ? BAD : crossing(n, order) != NOT ? STATE : bitsOf(n, order);
    }

    int by(int n, int bends, int what) {
        if (n < 2 || n > 7 || bends < 0 || bends >= Math.pow(2, n - 1) || what < 0 || what > 1) {
            return BAD;
        }
        List<Integer> such = clean(n).stream().filter(o -> bitsOf(n, o) == bends).toList();
        return what == 0 ? such.size() : such.isEmpty() ? NOT : such.get(0);
    }

    int with(int n, int f) {
        if (n < 2 || n > 7 || f < 0 || f >= n) {
            return BAD;
        }
        return (int) clean(n).stream().filter(o -> Integer.toString(o).endsWith("" + (f + 1))).count();
    }

    // ---- acts

    private static final List<Integer> TRACE = new ArrayList<>();

    private static int ran(int body) {
        TRACE.add(body);
        return 0;
    }

    private interface Folds {
        int n();

        default int folds(int x) {
            ran(1);
            return x + n();
        }
    }

    private interface Tells {
        int lays(int x);

        int wears(int x);

        default int tells(int x) {
            ran(2);
            return lays(x) - wears(1);
        }
    }

    private static class Folding implements Folds, Tells {
        int number;

        public int n() {
            return number;
        }

        public int lays(int x) {
            ran(10);
            return folds(x) * 2;
        }

        public int wears(int x) {
            ran(11);
            return x ^ number;
        }
    }

    private static class Right extends Folding {
        public int folds(int x) {
            ran(20);
            return super.folds(x) + 3;
        }
    }

    private static class Wrong extends Folding {
        public int lays(int x) {
            ran(30);
            return -super.lays(x);
        }
    }

    private static class Bulged extends Wrong {
        public int wears(int x) {
            ran(40);
            return super.wears(x) * 3;
        }

        public int lays(int x) {
            ran(41);
            return super.lays(x + 1);
        }
    }

    private static class Shown extends Folding {
        public int wears(int x) {
            ran(50);
            return super.wears(x) - folds(2);
        }
    }

    private static class Torn extends Bulged {
        public int tells(int x) {
            ran(60);
            return super.tells(x) ^ 5;
        }
    }

    private static class Loose extends Right {
        public int folds(int x) {
            ran(70);
            return super.folds(x) * 2;
        }
    }

    private static class Stuck extends Shown {
        public int lays(int x) {
            ran(80);
            return super.lays(x) + wears(2);
        }

        public int tells(int x) {
            ran(81);
            return super.tells(x) - 1;
        }
    }

    private static final Class<?>[] KINDS = {Folding.class, Right.class, Wrong.class, Bulged.class,
        Shown.class, Torn.class, Loose.class, Stuck.class};

    private static Folding made(int kind) {
        switch (kind) {
            case 0: return new Folding();
            case 1: return new Right();
            case 2: return new Wrong();
            case 3: return new Bulged();
            case 4: return new Shown();
            case 5: return new Torn();
            case 6: return new Loose();
            default: return new Stuck();
        }
    }

    private final List<Folding> bodies = new ArrayList<>();
    private List<Integer> trace = List.of();

    int body(int kind) {
        if (kind < 0 || kind > 7) {
            return BAD;
        }
        if (bodies.size() == 50) {
            return FULL;
        }
        Folding f = made(kind);
        f.number = bodies.size();
        bodies.add(f);
        return f.number;
    }

    int act(int body, int act, int x) {
        trace = List.of();
        if (body < 0 || body >= bodies.size() || act < 0 || act > 3) {
            return 0;
        }
        TRACE.clear();
        Folding f = bodies.get(body);
        int out = act == 0 ? f.folds(x) : act == 1 ? f.lays(x) : act == 2 ? f.wears(x) : f.tells(x);
        trace = new ArrayList<>(TRACE);
        return out;
    }

    int trace(int i) {
        return i < 0 || i >= Math.min(24, trace.size()) ? BAD : trace.get(i);
    }

    // ---- shelves

    private final Object[] shelves = new Object[6];

    private static boolean isShelf(int s) {
        return s >= 0 && s < 6;
    }

    int keep(int shelf, int body) {
        if (!isShelf(shelf) || body < -1 || body >= bodies.size()) {
            return BAD;
        }
        shelves[shelf] = body == -1 ? null : bodies.get(body);
        return 1;
    }

    int row(int shelf, int sort, int n) {
        if (!isShelf(shelf) || sort < 0 || sort > 4 || n > 60) {
            return BAD;
        }
        try {
            switch (sort) {
                case 0: shelves[shelf] = new byte[n]; break;
                case 1: shelves[shelf] = new short[n]; break;
                case 2: shelves[shelf] = new int[n]; break;
                case 3: shelves[shelf] = new long[n]; break;
                default: shelves[shelf] = new boolean[n]; break;
            }
        } catch (NegativeArraySizeException e) {
            return -14;
        }
        return 1;
    }

    private static void store(Object row, int i, long v) {
        if (row instanceof byte[] r) {
            r[i] = (byte) v;
        } else if (row instanceof short[] r) {
            r[i] = (short) v;
        } else if (row instanceof int[] r) {
            r[i] = (int) v;
        } else if (row instanceof long[] r) {
            r[i] = v;
        } else {
            ((boolean[]) row)[i] = v != 0;
        }
    }

    private static long load(Object row, int i) {
        if (row instanceof byte[] r) {
            return r[i];
        } else if (row instanceof short[] r) {
            return r[i];
        } else if (row instanceof int[] r) {
            return r[i];
        } else if (row instanceof long[] r) {
            return r[i];
        }
        return ((boolean[]) row)[i] ? 1 : 0;
    }

    int put(int shelf, int i, long v) {
        if (!isShelf(shelf)) {
            return BAD;
        }
        if (shelves[shelf] == null) {
            return -11;
        }
        if (shelves[shelf] instanceof Folding) {
            return -12;
        }
        try {
            store(shelves[shelf], i, v);
            return 1;
        } catch (ArrayIndexOutOfBoundsException e) {
            return -13;
        }
    }

    long element(int shelf, int i) {
        if (!isShelf(shelf) || shelves[shelf] == null || shelves[shelf] instanceof Folding) {
            return Long.MIN_VALUE;
        }
        try {
            return load(shelves[shelf], i);
        } catch (ArrayIndexOutOfBoundsException e) {
            return Long.MIN_VALUE;
        }
    }

    @SuppressWarnings("SuspiciousSystemArraycopy")
    int shift(int shelf, int i, int other, int j, int n) {
        if (!isShelf(shelf) || !isShelf(other)) {
            return BAD;
        }
        try {
            System.arraycopy(shelves[shelf], i, shelves[other], j, n);
            return n;
        } catch (NullPointerException e) {
            return -11;
        } catch (ArrayStoreException e) {
            return -12;
        } catch (IndexOutOfBoundsException e) {
            return -13;
        }
    }

    int taken(int shelf, int k) {
        if (!isShelf(shelf) || k < 0 || k > 7) {
            return BAD;
        }
        if (shelves[shelf] == null) {
            return -11;
        }
        if (!KINDS[k].isInstance(shelves[shelf])) {
            return -12;
        }
        return List.of(KINDS).indexOf(shelves[shelf].getClass());
    }

    int count(int what) {
        switch (what) {
            case 0: return now.rows * now.cols;
            case 1: return plan.size();
            case 2: return tape.length();
            case 3: return past.size();
            case 4: return bodies.size();
            case 5: return trace.size();
            default: return BAD;
        }
    }
}
