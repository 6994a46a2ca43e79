import java.util.Arrays;

/** A sheet of fields that is folded, pile upon pile. What each call answers stands in the document. */
public final class MapFold {
    public static final int BAD = -1, NOT = -2, FULL = -3, STATE = -5, VOID = -2000000000;

    private static final int NOTHING_THERE = -11, OTHER_KIND = -12, NO_PLACE = -13, SIZE_BELOW_ZERO = -14;
    private static final int MAX_ROWS = 4, MAX_COLS = 8, MAX_FIELDS = 32, MAX_WORN = 99;
    private static final int WAYS = 8, MAX_LINE = 7, MAX_PLAN = 12, MAX_SOUGHT = 3, MAX_SOUGHT_FIELDS = 16;
    private static final int MAX_TAPE = 120, MAX_OPEN = 6, MAX_CHANGES = 40;
    private static final int MAX_BODIES = 50, KINDS = 8, ACTS = 4, MAX_TRACE = 24;
    private static final int SHELVES = 6, MAX_ROW = 60, BYTES = 0, SORTS = 5;
    private static final int MIN_STRIP = 2, MAX_STRIP = 7;

    private final Sheet now = new Sheet();
    private final Sheet kept = new Sheet();
    private final Law wearing = new Law();
    private final Plan planned = new Plan();
    private final Search search = new Search();
    private final Strip strip = new Strip();
    private final Changes changes = new Changes();
    private final Foldings foldings = new Foldings();
    private final Shelf[] shelves = new Shelf[SHELVES];
    private boolean hasImage;

    public MapFold() {
        for (int i = 0; i < SHELVES; i++) {
            shelves[i] = new Shelf();
        }
    }

    // ---- the sheet

    public int sheet(int rc) {
        int rows = rc / 10;
        int cols = rc % 10;
        if (rows < 1 || rows > MAX_ROWS || cols < 1 || cols > MAX_COLS) {
            return BAD;
        }
        int had = 10 * now.rows + now.cols;
        now.renew(rows, cols);
        return had;
    }

    public int limit(int v) {
        if (v < 1 || v > MAX_WORN) {
            return BAD;
        }
        int was = changes.value;
        changes.become(v);
        return was;
    }

    public int feed(int letter) {
        if (letter < 0 || letter > 255) {
            return BAD;
        }
        return wearing.write(letter) ? wearing.size : FULL;
    }

    public int law() {
        int fault = wearing.readTape();
        return fault < 0 ? 1 : -100 - fault;
    }

    public int fold(int line, int way) {
        if (!isWay(way)) {
            return BAD;
        }
        if (!now.hasLine(line, way)) {
            return NOT;
        }
        return now.bendAndTurn(line, way, changes.value, wearing);
    }

    public int flat() {
        int piles = now.piles();
        now.layOut();
        return piles;
    }

    public int crease(int fk, int what) {
        if (fk < 0 || what < 0 || what > 2) {
            return BAD;
        }
        int field = fk / 10;
        int k = fk % 10;
        if (now.neighbour(field, k) < 0) {
            return BAD;
        }
        int index = 2 * field + k;
        switch (what) {
            case 0: return now.worn[index];
            case 1: return now.last[index];
            default: return now.worn[index] >= changes.value ? 1 : 0;
        }
    }

    public int shape(int what) {
        switch (what) {
            case 0: return now.high;
            case 1: return now.wide;
            case 2: return now.highestPile();
            default: return BAD;
        }
    }

    public int where(int field, int what) {
        return now.placeOf(field, what);
    }

    public int pile(int rc, int i) {
        if (!now.hasPile(rc) || i < -2) {
            return BAD;
        }
        int height = now.heightAt(rc / 10, rc % 10);
        if (i == -2) {
            return height;
        }
        return now.fieldAt(rc / 10, rc % 10, i == -1 ? height - 1 : i);
    }

    public int led(int what) {
        switch (what) {
            case 0: return now.folds;
            case 1: return now.wrong;
            case 2: return now.torn(changes.value);
            default: return BAD;
        }
    }

    // ---- plans

    public int plan(int line, int way) {
        if (line == 0) {
            planned.size = 0;
            return 0;
        }
        if (!isPlannedFold(line, way)) {
            return BAD;
        }
        return planned.append(line, way) ? planned.size : FULL;
    }

    public int plans(int shelf, int i, int n) {
        if (!isShelf(shelf) || n < 1 || n > MAX_PLAN) {
            return BAD;
        }
        Shelf from = shelves[shelf];
        if (from.holds == Shelf.NOTHING) {
            return 0;
        }
        if (from.holds != Shelf.ROW || from.sort != BYTES) {
            return OTHER_KIND;
        }
        return i < 0 ? 0 : planned.appendFrom(from, i, n);
    }

    public int cost(int what) {
        if (what < 0 || what > 3) {
            return BAD;
        }
        int can = planned.tryFirst(MAX_PLAN, now, changes.value, wearing);
        Sheet tried = planned.trial;
        switch (what) {
            case 0: return can;
            case 1: return tried.more;
            case 2: return tried.wrong;
            default: return tried.torn(changes.value) - now.torn(changes.value);
        }
    }

    public int lies(int fn, int what) {
        if (fn < 0 || !now.hasField(fn / 100) || !behind(fn % 100)) {
            return BAD;
        }
        return planned.trial.placeOf(fn / 100, what);
    }

    public int top(int n, int rc) {
        if (!behind(n) || !planned.trial.hasPile(rc)) {
            return BAD;
        }
        return planned.trial.topAt(rc / 10, rc % 10);
    }

    public int beside(int n, int fg) {
        if (fg < 0) {
            return BAD;
        }
        int one = fg / 100;
        int other = fg % 100;
        if (one == other || !now.hasField(one) || !now.hasField(other) || !behind(n)) {
            return BAD;
        }
        return planned.trial.topsTouch(one, other) ? 1 : 0;
    }

    public int wished(int field, int i) {
        if (!now.hasField(field) || i < -1 || i >= MAX_SOUGHT) {
            return BAD;
        }
        if (now.fields() > MAX_SOUGHT_FIELDS) {
            return STATE;
        }
        search.seekTop(now, field);
        if (!search.found) {
            return NOT;
        }
        return i == -1 ? search.folds : search.soughtFold(i);
    }

    public int right(int what) {
        if (what < -3 || what >= MAX_SOUGHT) {
            return BAD;
        }
        if (now.fields() > MAX_SOUGHT_FIELDS) {
            return STATE;
        }
        search.seekLeastWrong(now, changes.value, wearing);
        if (!search.found) {
            return NOT;
        }
        switch (what) {
            case -1: return search.wrong;
            case -2: return search.more;
            case -3: return search.folds;
            default: return search.soughtFold(what);
        }
    }

    public int wind(int seed, int nh, int what) {
        int times = nh / 1000;
        int chance = nh % 1000;
        if (times < 1 || times > 20 || chance > 100 || what < 0 || what > 1) {
            return BAD;
        }
        int z = seed;
        int sum = 0;
        for (int i = 0; i < times; i++) {
            z = planned.tryInWind(now, changes.value, wearing, z, chance);
            sum += what == 0 ? planned.trial.wrong : planned.trial.more;
        }
        return sum / times;
    }

    // ---- strips

    public int crosses(int n, int order) {
        if (!isStrip(n) || !strip.lay(n, order)) {
            return BAD;
        }
        int pair = strip.firstCross(n);
        return pair < 0 ? NOT : pair;
    }

    public int orders(int n, int i) {
        if (!isStrip(n)) {
            return BAD;
        }
        return i == -1 ? strip.howMany(n) : strip.orderAt(n, i);
    }

    public int bends(int n, int order) {
        if (!isStrip(n) || !strip.lay(n, order)) {
            return BAD;
        }
        return strip.firstCross(n) >= 0 ? STATE : strip.bits(n);
    }

    public int by(int n, int bends, int what) {
        if (!isStrip(n) || bends < 0 || bends >= 1 << (n - 1) || what < 0 || what > 1) {
            return BAD;
        }
        if (what == 0) {
            return strip.howManyBent(n, bends);
        }
        int first = strip.firstBent(n, bends);
        return first < 0 ? NOT : first;
    }

    public int with(int n, int f) {
        if (!isStrip(n) || f < 0 || f >= n) {
            return BAD;
        }
        return strip.howManyTopped(n, f);
    }

    public int image() {
        kept.copy(now);
        hasImage = true;
        return now.folds;
    }

    public int back() {
        if (!hasImage) {
            return STATE;
        }
        now.copy(kept);
        return now.folds;
    }

    public int undo() {
        if (changes.done == 0) {
            return STATE;
        }
        changes.stepBack();
        return changes.done;
    }

    public int redo() {
        if (changes.done == changes.size) {
            return STATE;
        }
        changes.stepOn();
        return changes.size - changes.done;
    }

    // ---- acts, shelves

    public int body(int kind) {
        if (kind < 0 || kind >= KINDS) {
            return BAD;
        }
        return foldings.make(kind) ? foldings.size - 1 : FULL;
    }

    public int act(int body, int act, int x) {
        return foldings.perform(body, act, x);
    }

    public int trace(int i) {
        return foldings.traced(i);
    }

    public int keep(int shelf, int body) {
        if (!isShelf(shelf) || body != -1 && !foldings.has(body)) {
            return BAD;
        }
        if (body == -1) {
            shelves[shelf].holds = Shelf.NOTHING;
        } else {
            shelves[shelf].holdFolding(body);
        }
        return 1;
    }

    public int row(int shelf, int sort, int n) {
        if (!isShelf(shelf) || sort < 0 || sort >= SORTS || n > MAX_ROW) {
            return BAD;
        }
        if (n < 0) {
            return SIZE_BELOW_ZERO;
        }
        shelves[shelf].holdRow(sort, n);
        return 1;
    }

    public int put(int shelf, int i, long v) {
        int refused = refusedElement(shelf, i);
        if (refused != 0) {
            return refused;
        }
        shelves[shelf].store(i, v);
        return 1;
    }

    public long element(int shelf, int i) {
        return refusedElement(shelf, i) != 0 ? Long.MIN_VALUE : shelves[shelf].items[i];
    }

    public int shift(int shelf, int i, int other, int j, int n) {
        if (!isShelf(shelf) || !isShelf(other)) {
            return BAD;
        }
        Shelf from = shelves[shelf];
        Shelf to = shelves[other];
        if (from.holds == Shelf.NOTHING || to.holds == Shelf.NOTHING) {
            return NOTHING_THERE;
        }
        if (from.holds != Shelf.ROW || to.holds != Shelf.ROW || from.sort != to.sort) {
            return OTHER_KIND;
        }
        if (n < 0 || !from.hasPart(i, n) || !to.hasPart(j, n)) {
            return NO_PLACE;
        }
        System.arraycopy(from.items, i, to.items, j, n);
        return n;
    }

    public int taken(int shelf, int k) {
        if (!isShelf(shelf) || k < 0 || k >= KINDS) {
            return BAD;
        }
        Shelf held = shelves[shelf];
        if (held.holds == Shelf.NOTHING) {
            return NOTHING_THERE;
        }
        if (held.holds != Shelf.FOLDING || !foldings.isUnder(held.body, k)) {
            return OTHER_KIND;
        }
        return foldings.kinds[held.body];
    }

    public int count(int what) {
        switch (what) {
            case 0: return now.fields();
            case 1: return planned.size;
            case 2: return wearing.size;
            case 3: return changes.done;
            case 4: return foldings.size;
            case 5: return foldings.ran;
            default: return BAD;
        }
    }

    // ---- what the calls share

    private static boolean isWay(int way) {
        return way >= 0 && way < WAYS;
    }

    private static boolean isPlannedFold(long line, long way) {
        return line >= 1 && line <= MAX_LINE && way >= 0 && way < WAYS;
    }

    private static boolean isStrip(int n) {
        return n >= MIN_STRIP && n <= MAX_STRIP;
    }

    private static boolean isShelf(int shelf) {
        return shelf >= 0 && shelf < SHELVES;
    }

    /** Lays the trial sheet behind the plan's first n folds; false if n is not within 0 .. CAN. */
    private boolean behind(int n) {
        return n >= 0 && planned.tryFirst(n, now, changes.value, wearing) == n;
    }

    private int refusedElement(int shelf, int i) {
        if (!isShelf(shelf)) {
            return BAD;
        }
        switch (shelves[shelf].holds) {
            case Shelf.NOTHING: return NOTHING_THERE;
            case Shelf.FOLDING: return OTHER_KIND;
            default: return shelves[shelf].hasPart(i, 1) ? 0 : NO_PLACE;
        }
    }

    /** The sheet, its creases and the shape in which it lies; where each field lies is kept by field. */
    private static final class Sheet {
        int rows;
        int cols;
        int high;
        int wide;
        int folds;
        int wrong;
        int more;
        final int[] rowOf = new int[MAX_FIELDS];
        final int[] colOf = new int[MAX_FIELDS];
        final int[] below = new int[MAX_FIELDS];
        final int[] face = new int[MAX_FIELDS];
        final int[] worn = new int[2 * MAX_FIELDS];
        final int[] last = new int[2 * MAX_FIELDS];
        // Kept from fold to fold only so that no fold makes new arrays.
        final int[] bend = new int[2 * MAX_FIELDS];
        final int[] tall = new int[MAX_ROWS * MAX_COLS];

        Sheet() {
            renew(2, 4);
        }

        void renew(int newRows, int newCols) {
            rows = newRows;
            cols = newCols;
            Arrays.fill(worn, 0);
            Arrays.fill(last, 0);
            forgetLed();
            layOut();
        }

        void forgetLed() {
            folds = 0;
            wrong = 0;
            more = 0;
        }

        void layOut() {
            high = rows;
            wide = cols;
            int field = 0;
            for (int row = 0; row < rows; row++) {
                for (int col = 0; col < cols; col++) {
                    rowOf[field] = row;
                    colOf[field] = col;
                    below[field] = 0;
                    face[field] = 0;
                    field++;
                }
            }
        }

        void copy(Sheet other) {
            rows = other.rows;
            cols = other.cols;
            high = other.high;
            wide = other.wide;
            folds = other.folds;
            wrong = other.wrong;
            more = other.more;
            System.arraycopy(other.rowOf, 0, rowOf, 0, MAX_FIELDS);
            System.arraycopy(other.colOf, 0, colOf, 0, MAX_FIELDS);
            System.arraycopy(other.below, 0, below, 0, MAX_FIELDS);
            System.arraycopy(other.face, 0, face, 0, MAX_FIELDS);
            System.arraycopy(other.worn, 0, worn, 0, 2 * MAX_FIELDS);
            System.arraycopy(other.last, 0, last, 0, 2 * MAX_FIELDS);
        }

        /** A flat sheet with the other's creases, as every trial begins. */
        void beginTrial(Sheet other) {
            copy(other);
            forgetLed();
            layOut();
        }

        int fields() {
            return rows * cols;
        }

        int piles() {
            return high * wide;
        }

        boolean hasField(int field) {
            return field >= 0 && field < fields();
        }

        boolean hasPile(int rc) {
            return rc >= 0 && rc / 10 < high && rc % 10 < wide;
        }

        boolean hasLine(int line, int way) {
            return line >= 1 && line < span(way);
        }

        /** How many columns, or rows, a fold of this way has to part. */
        int span(int way) {
            return way < 4 ? wide : high;
        }

        int spanBehind(int line, int way) {
            return Math.max(line, span(way) - line);
        }

        /** The field on the other side of crease k; -1: there is no such crease. */
        int neighbour(int field, int k) {
            if (!hasField(field)) {
                return -1;
            }
            if (k == 0) {
                return field % cols < cols - 1 ? field + 1 : -1;
            }
            return k == 1 && field + cols < fields() ? field + cols : -1;
        }

        int placeOf(int field, int what) {
            if (!hasField(field)) {
                return BAD;
            }
            switch (what) {
                case 0: return rowOf[field];
                case 1: return colOf[field];
                case 2: return below[field];
                case 3: return face[field];
                default: return BAD;
            }
        }

        int heightAt(int row, int col) {
            int height = 0;
            for (int field = 0; field < fields(); field++) {
                if (rowOf[field] == row && colOf[field] == col) {
                    height++;
                }
            }
            return height;
        }

        int highestPile() {
            int most = 0;
            for (int field = 0; field < fields(); field++) {
                most = Math.max(most, below[field] + 1);
            }
            return most;
        }

        int fieldAt(int row, int col, int level) {
            for (int field = 0; field < fields(); field++) {
                if (rowOf[field] == row && colOf[field] == col && below[field] == level) {
                    return field;
                }
            }
            return BAD;
        }

        int topAt(int row, int col) {
            return fieldAt(row, col, heightAt(row, col) - 1);
        }

        boolean isTop(int field) {
            return topAt(rowOf[field], colOf[field]) == field;
        }

        boolean topsTouch(int one, int other) {
            int apart = Math.abs(rowOf[one] - rowOf[other]) + Math.abs(colOf[one] - colOf[other]);
            return apart == 1 && isTop(one) && isTop(other);
        }

        int torn(int limit) {
            int sum = 0;
            for (int i = 0; i < 2 * fields(); i++) {
                if (neighbour(i / 2, i % 2) >= 0 && worn[i] >= limit) {
                    sum++;
                }
            }
            return sum;
        }

        /** A whole fold along a line that is there: how many creases it bent. */
        int bendAndTurn(int line, int way, int limit, Law law) {
            int bent = markBends(line, way, limit);
            for (int i = 0; i < 2 * fields(); i++) {
                if (bend[i] != 0) {
                    wear(i, bent, law);
                }
            }
            turn(line, way);
            folds++;
            return bent;
        }

        private int markBends(int line, int way, int limit) {
            int bent = 0;
            for (int i = 0; i < 2 * fields(); i++) {
                int other = neighbour(i / 2, i % 2);
                bend[i] = other < 0 || worn[i] >= limit ? 0 : bendBetween(i / 2, other, line, way);
                if (bend[i] != 0) {
                    bent++;
                }
            }
            return bent;
        }

        private int bendBetween(int one, int other, int line, int way) {
            int coming = comesFromStart(way) ? line - 1 : line;
            int staying = comesFromStart(way) ? line : line - 1;
            if (across(one, way) != across(other, way)) {
                return 0;
            }
            if (along(one, way) == coming && along(other, way) == staying) {
                return bendAt(one, way);
            }
            if (along(other, way) == coming && along(one, way) == staying) {
                return bendAt(other, way);
            }
            return 0;
        }

        private int bendAt(int coming, int way) {
            return (face[coming] == 0) == comesOver(way) ? 1 : 2;
        }

        private void wear(int crease, int bent, Law law) {
            int against = last[crease] != 0 && last[crease] != bend[crease] ? 1 : 0;
            int was = worn[crease];
            int by = law.worth(bent, was, against, crease % 2, crease / 2, bend[crease]);
            worn[crease] = Math.min(MAX_WORN, was + by);
            last[crease] = bend[crease];
            more += worn[crease] - was;
            wrong += against;
        }

        /** Moves the fields and nothing else: the creases are not looked at. */
        void turn(int line, int way) {
            measurePiles();
            int span = span(way);
            int start = comesFromStart(way) ? line : Math.min(0, 2 * line - span);
            for (int field = 0; field < fields(); field++) {
                int place = along(field, way);
                int mirrored = 2 * line - 1 - place;
                int met = tallAt(mirrored, across(field, way), way);
                if (place < line == comesFromStart(way)) {
                    int own = tallAt(place, across(field, way), way);
                    below[field] = own - 1 - below[field] + (comesOver(way) ? met : 0);
                    face[field] = 1 - face[field];
                    place = mirrored;
                } else if (!comesOver(way)) {
                    below[field] += met;
                }
                setAlong(field, way, place - start);
            }
            narrow(way, spanBehind(line, way));
        }

        private void measurePiles() {
            Arrays.fill(tall, 0);
            for (int field = 0; field < fields(); field++) {
                tall[rowOf[field] * MAX_COLS + colOf[field]]++;
            }
        }

        /** The height before the fold; beyond the shape there is nothing. */
        private int tallAt(int along, int across, int way) {
            if (along < 0 || along >= span(way)) {
                return 0;
            }
            return way < 4 ? tall[across * MAX_COLS + along] : tall[along * MAX_COLS + across];
        }

        private void narrow(int way, int span) {
            if (way < 4) {
                wide = span;
            } else {
                high = span;
            }
        }

        private int along(int field, int way) {
            return way < 4 ? colOf[field] : rowOf[field];
        }

        private int across(int field, int way) {
            return way < 4 ? rowOf[field] : colOf[field];
        }

        private void setAlong(int field, int way, int place) {
            if (way < 4) {
                colOf[field] = place;
            } else {
                rowOf[field] = place;
            }
        }

        /** Whether what is left of the line, or above it, is what comes. */
        private static boolean comesFromStart(int way) {
            return (way & 2) == 0;
        }

        private static boolean comesOver(int way) {
            return (way & 1) == 0;
        }
    }

    /** The tape, and the law read from it, kept as steps that work on a stack. */
    private static final class Law {
        // A number is a step of its own from here on; below it a step is its sign.
        private static final int NUMBER = 1000;
        private static final int MINUS_AHEAD = '~';
        // Each byte makes one step at most, and the text's end makes one more.
        private static final int MAX_STEPS = MAX_TAPE + 1;

        int size;
        private final int[] tape = new int[MAX_TAPE];
        private final int[] steps = new int[MAX_STEPS];
        private int stepCount;
        private final int[] draft = new int[MAX_STEPS];
        private int draftCount;
        private int place;
        private int fault;
        private final int[] stack = new int[MAX_STEPS];
        private int stacked;

        boolean write(int letter) {
            if (size >= MAX_TAPE) {
                return false;
            }
            tape[size] = letter;
            size++;
            return true;
        }

        /** The tape becomes the law, unless it has a fault: that is answered then, else -1. */
        int readTape() {
            place = 0;
            fault = -1;
            draftCount = 0;
            readLine();
            for (int i = 0; i < MAX_TAPE && meets(';'); i++) {
                place++;
                readLine();
            }
            if (place < size) {
                fail();
            }
            size = 0;
            if (fault < 0) {
                System.arraycopy(draft, 0, steps, 0, draftCount);
                stepCount = draftCount;
            }
            return fault;
        }

        private void readLine() {
            readEither(0);
            if (meets('?')) {
                place++;
                note('?');
                readEither(0);
            }
            note(';');
        }

        private void readEither(int open) {
            readBoth(open);
            for (int i = 0; i < MAX_TAPE && meets('|'); i++) {
                place++;
                readBoth(open);
                note('|');
            }
        }

        private void readBoth(int open) {
            readCompared(open);
            for (int i = 0; i < MAX_TAPE && meets('&'); i++) {
                place++;
                readCompared(open);
                note('&');
            }
        }

        private void readCompared(int open) {
            readSum(open);
            if (meets('<') || meets('=') || meets('>')) {
                int sign = next();
                place++;
                readSum(open);
                note(sign);
            }
        }

        private void readSum(int open) {
            readProduct(open);
            for (int i = 0; i < MAX_TAPE && (meets('+') || meets('-')); i++) {
                int sign = next();
                place++;
                readProduct(open);
                note(sign);
            }
        }

        private void readProduct(int open) {
            readOne(open);
            for (int i = 0; i < MAX_TAPE && (meets('*') || meets('/') || meets('%')); i++) {
                int sign = next();
                place++;
                readOne(open);
                note(sign);
            }
        }

        private void readOne(int open) {
            int sign = next();
            if (isDigit(sign)) {
                readNumber();
            } else if (isName(sign)) {
                place++;
                note(sign);
            } else if (open < MAX_OPEN && (sign == '!' || sign == '-')) {
                place++;
                readOne(open + 1);
                note(sign == '!' ? '!' : MINUS_AHEAD);
            } else if (open < MAX_OPEN && sign == '(') {
                place++;
                readEither(open + 1);
                if (meets(')')) {
                    place++;
                } else {
                    fail();
                }
            } else {
                fail();
            }
        }

        private void readNumber() {
            int value = 0;
            for (int i = 0; i < 4 && isDigit(next()); i++) {
                value = value * 10 + next() - '0';
                place++;
            }
            note(NUMBER + value);
        }

        private static boolean isDigit(int sign) {
            return sign >= '0' && sign <= '9';
        }

        private static boolean isName(int sign) {
            switch (sign) {
                case 'n': case 'w': case 'r': case 'k': case 'f': case 'b': return true;
                default: return false;
            }
        }

        private int next() {
            return place < size ? tape[place] : -1;
        }

        /** Behind a fault nothing is met, so that all reading ends. */
        private boolean meets(int sign) {
            return fault < 0 && next() == sign;
        }

        private void fail() {
            if (fault < 0) {
                fault = place;
            }
        }

        private void note(int step) {
            if (draftCount < MAX_STEPS) {
                draft[draftCount] = step;
                draftCount++;
            }
        }

        /** By how much a crease is worn: n, w, r, k, f, b as the text names them. */
        int worth(int n, int w, int r, int k, int f, int b) {
            if (stepCount == 0) {
                return 1 + 2 * r;
            }
            stacked = 0;
            boolean counts = true;
            for (int i = 0; i < stepCount; i++) {
                switch (steps[i]) {
                    case ';':
                        int answer = pop();
                        if (counts) {
                            return Math.max(0, Math.min(9, answer));
                        }
                        counts = true;
                        break;
                    case '?': counts = pop() != 0; break;
                    case 'n': push(n); break;
                    case 'w': push(w); break;
                    case 'r': push(r); break;
                    case 'k': push(k); break;
                    case 'f': push(f); break;
                    case 'b': push(b); break;
                    case '!': push(pop() == 0 ? 1 : 0); break;
                    case MINUS_AHEAD: push(-pop()); break;
                    default:
                        if (steps[i] >= NUMBER) {
                            push(steps[i] - NUMBER);
                        } else {
                            int second = pop();
                            push(joined(steps[i], pop(), second));
                        }
                        break;
                }
            }
            return 0;
        }

        private static int joined(int sign, int a, int b) {
            switch (sign) {
                case '|': return a != 0 || b != 0 ? 1 : 0;
                case '&': return a != 0 && b != 0 ? 1 : 0;
                case '<': return a < b ? 1 : 0;
                case '=': return a == b ? 1 : 0;
                case '>': return a > b ? 1 : 0;
                case '+': return a + b;
                case '-': return a - b;
                case '*': return a * b;
                case '/': return b == 0 ? 0 : a / b;
                case '%': return b == 0 ? 0 : a % b;
                default: return 0;
            }
        }

        private void push(int value) {
            if (stacked < MAX_STEPS) {
                stack[stacked] = value;
                stacked++;
            }
        }

        private int pop() {
            if (stacked == 0) {
                return 0;
            }
            stacked--;
            return stack[stacked];
        }
    }

    /** The plan, and the sheet on which it is tried. */
    private static final class Plan {
        int size;
        final Sheet trial = new Sheet();
        private final int[] lines = new int[MAX_PLAN];
        private final int[] ways = new int[MAX_PLAN];

        boolean append(int line, int way) {
            if (size >= MAX_PLAN) {
                return false;
            }
            lines[size] = line;
            ways[size] = way;
            size++;
            return true;
        }

        /** How many of n folds came from a row of bytes, from a place on that is not below 0. */
        int appendFrom(Shelf row, int start, int n) {
            int came = 0;
            for (int i = 0; i < n; i++) {
                // A long, for a start near the highest int must not wrap to a place that is there.
                long at = start + 2L * i;
                if (at + 1 >= row.size) {
                    return came;
                }
                long line = row.items[(int) at];
                long way = row.items[(int) at + 1];
                if (!isPlannedFold(line, way) || !append((int) line, (int) way)) {
                    return came;
                }
                came++;
            }
            return came;
        }

        /** Tries the first n folds, or as many as there are: how many of them could be done. */
        int tryFirst(int n, Sheet sheet, int limit, Law law) {
            trial.beginTrial(sheet);
            for (int i = 0; i < n && i < size; i++) {
                if (!trial.hasLine(lines[i], ways[i])) {
                    return i;
                }
                trial.bendAndTurn(lines[i], ways[i], limit, law);
            }
            return Math.min(n, size);
        }

        /** Over or under leaves the shape's size as it is, so all that can be done still can: z behind it. */
        int tryInWind(Sheet sheet, int limit, Law law, int seed, int chance) {
            int z = seed;
            trial.beginTrial(sheet);
            for (int i = 0; i < size && trial.hasLine(lines[i], ways[i]); i++) {
                z = z * 1103515245 + 12345;
                int way = (z >>> 8) % 100 < chance ? ways[i] ^ 1 : ways[i];
                trial.bendAndTurn(lines[i], way, limit, law);
            }
            return z;
        }
    }

    /** Goes through all rows of at most three folds by which a flat sheet is one pile. */
    private static final class Search {
        boolean found;
        int wrong;
        int more;
        int folds;
        private final Sheet[] levels = new Sheet[MAX_SOUGHT + 1];
        private final int[] path = new int[MAX_SOUGHT];
        private final int[] best = new int[MAX_SOUGHT];
        // A field that has to be on top; -1: any.
        private int wanted;

        Search() {
            for (int i = 0; i <= MAX_SOUGHT; i++) {
                levels[i] = new Sheet();
            }
        }

        void seekTop(Sheet sheet, int field) {
            begin(sheet, field);
            seek(0, 0, null);
        }

        void seekLeastWrong(Sheet sheet, int limit, Law law) {
            begin(sheet, -1);
            seek(0, limit, law);
        }

        int soughtFold(int i) {
            return i >= 0 && i < folds ? best[i] : BAD;
        }

        private void begin(Sheet sheet, int field) {
            wanted = field;
            found = false;
            levels[0].beginTrial(sheet);
        }

        /** Without a law only the fields move, as is enough where a field on top is sought. */
        private void seek(int depth, int limit, Law law) {
            Sheet here = levels[depth];
            if (here.piles() == 1) {
                weigh(here, depth);
                return;
            }
            int left = MAX_SOUGHT - depth - 1;
            if (left < 0) {
                return;
            }
            for (int line = 1; line <= MAX_LINE; line++) {
                for (int way = 0; way < WAYS; way++) {
                    if (here.hasLine(line, way) && canEnd(here, line, way, left)) {
                        Sheet next = levels[depth + 1];
                        next.copy(here);
                        if (law == null) {
                            next.turn(line, way);
                        } else {
                            next.bendAndTurn(line, way, limit, law);
                        }
                        path[depth] = 10 * line + way;
                        seek(depth + 1, limit, law);
                    }
                }
            }
        }

        /** A fold halves rows or columns at best: most rows of folds are dead long before their end. */
        private static boolean canEnd(Sheet here, int line, int way, int left) {
            int other = way < 4 ? here.high : here.wide;
            return halvings(here.spanBehind(line, way)) + halvings(other) <= left;
        }

        private static int halvings(int span) {
            int sum = 0;
            for (int reach = 1; reach < span; reach *= 2) {
                sum++;
            }
            return sum;
        }

        /** Rows of folds come in their order, so that of equal ones the first stays. */
        private void weigh(Sheet here, int depth) {
            if (wanted >= 0 && !here.isTop(wanted)) {
                return;
            }
            if (found && !isLess(here, depth)) {
                return;
            }
            found = true;
            wrong = here.wrong;
            more = here.more;
            folds = depth;
            System.arraycopy(path, 0, best, 0, depth);
        }

        private boolean isLess(Sheet here, int depth) {
            if (here.wrong != wrong) {
                return here.wrong < wrong;
            }
            if (here.more != more) {
                return here.more < more;
            }
            return depth < folds;
        }
    }

    /** A strip folded on to one field; the orders that cross nothing are sought once for each length. */
    private static final class Strip {
        // Where the orders of n begin: there are 2, 6, 16, 50, 144, 462 of 2 to 7 fields.
        private static final int[] START = {0, 0, 0, 2, 8, 24, 74, 218, 680};
        private static final int ALL_ORDERS = 680;

        private final int[] list = new int[ALL_ORDERS];
        private final int[] found = new int[MAX_STRIP + 1];
        // How many lie below each field; -1: it is not laid yet.
        private final int[] at = new int[MAX_STRIP];

        /** Lays an order's fields; false: it is no order of n fields. */
        boolean lay(int n, int order) {
            Arrays.fill(at, -1);
            int rest = order;
            for (int place = n - 1; place >= 0; place--) {
                int field = rest % 10 - 1;
                if (field < 0 || field >= n || at[field] >= 0) {
                    return false;
                }
                at[field] = place;
                rest /= 10;
            }
            return rest == 0;
        }

        int firstCross(int n) {
            for (int i = 0; i < n - 1; i++) {
                for (int j = i + 2; j < n - 1; j += 2) {
                    if (crossing(i, j)) {
                        return 10 * i + j;
                    }
                }
            }
            return -1;
        }

        private boolean crossing(int i, int j) {
            return isWithin(i, at[j]) != isWithin(i, at[j + 1]);
        }

        private boolean isWithin(int crease, int place) {
            int low = Math.min(at[crease], at[crease + 1]);
            int high = Math.max(at[crease], at[crease + 1]);
            return low < place && place < high;
        }

        int bits(int n) {
            int bits = 0;
            for (int i = 0; i < n - 1; i++) {
                boolean faceUp = i % 2 == 0;
                if (at[i] < at[i + 1] == faceUp) {
                    bits |= 1 << i;
                }
            }
            return bits;
        }

        int howMany(int n) {
            if (found[n] == 0) {
                Arrays.fill(at, -1);
                grow(n, 0, 0);
            }
            return found[n];
        }

        int orderAt(int n, int i) {
            return i >= 0 && i < howMany(n) ? list[START[n] + i] : BAD;
        }

        int howManyBent(int n, int bits) {
            int sum = 0;
            int all = howMany(n);
            for (int i = 0; i < all; i++) {
                if (isBent(n, i, bits)) {
                    sum++;
                }
            }
            return sum;
        }

        int firstBent(int n, int bits) {
            int all = howMany(n);
            for (int i = 0; i < all; i++) {
                if (isBent(n, i, bits)) {
                    return list[START[n] + i];
                }
            }
            return -1;
        }

        private boolean isBent(int n, int i, int bits) {
            return lay(n, list[START[n] + i]) && bits(n) == bits;
        }

        int howManyTopped(int n, int field) {
            int sum = 0;
            int all = howMany(n);
            for (int i = 0; i < all; i++) {
                if (list[START[n] + i] % 10 == field + 1) {
                    sum++;
                }
            }
            return sum;
        }

        /** Lays field upon field, each time the lesser ones first: so the orders come by rows of digits. */
        private void grow(int n, int laid, int order) {
            if (laid == n) {
                enter(n, order);
                return;
            }
            for (int field = 0; field < n; field++) {
                if (at[field] >= 0) {
                    continue;
                }
                at[field] = laid;
                if (!crossesLaid(n, field - 1) && !crossesLaid(n, field)) {
                    grow(n, laid + 1, 10 * order + field + 1);
                }
                at[field] = -1;
            }
        }

        private void enter(int n, int order) {
            int index = START[n] + found[n];
            if (index < START[n + 1]) {
                list[index] = order;
                found[n]++;
            }
        }

        private boolean crossesLaid(int n, int crease) {
            if (!isLaid(n, crease)) {
                return false;
            }
            for (int other = crease % 2; other < n - 1; other += 2) {
                if (other != crease && isLaid(n, other) && crossing(crease, other)) {
                    return true;
                }
            }
            return false;
        }

        private boolean isLaid(int n, int crease) {
            return crease >= 0 && crease < n - 1 && at[crease] >= 0 && at[crease + 1] >= 0;
        }
    }

    /** The limit, and its changes, of which the first 'done' may be undone and the others done again. */
    private static final class Changes {
        int value = 20;
        int done;
        int size;
        private final int[] before = new int[MAX_CHANGES];
        private final int[] after = new int[MAX_CHANGES];

        /** What stays as it was is no change. */
        void become(int v) {
            if (v == value) {
                return;
            }
            if (done == MAX_CHANGES) {
                forgetOldest();
            }
            before[done] = value;
            after[done] = v;
            done++;
            size = done;
            value = v;
        }

        private void forgetOldest() {
            System.arraycopy(before, 1, before, 0, MAX_CHANGES - 1);
            System.arraycopy(after, 1, after, 0, MAX_CHANGES - 1);
            done--;
        }

        void stepBack() {
            if (done > 0) {
                done--;
                value = before[done];
            }
        }

        void stepOn() {
            if (done < size) {
                value = after[done];
                done++;
            }
        }
    }

    /** The foldings by their kinds, what their acts do, and the trace of the latest act. */
    private static final class Foldings {
        private static final int FOLDS = 0, LAYS = 1, WEARS = 2, TELLS = 3;
        private static final int[] ABOVE = {-1, 0, 0, 2, 0, 3, 1, 4};
        // By kind and act: the number of the kind's own body, 0 where it has none.
        private static final int[] OWN = {
            1, 10, 11, 2,
            20, 0, 0, 0,
            0, 30, 0, 0,
            0, 41, 40, 0,
            0, 0, 50, 0,
            0, 0, 0, 60,
            70, 0, 0, 0,
            0, 80, 0, 81};
        // Far above what any kind's acts go through.
        private static final int MAX_DEPTH = 40;

        int size;
        int ran;
        final int[] kinds = new int[MAX_BODIES];
        private final int[] trace = new int[MAX_TRACE];
        private int number;

        boolean make(int kind) {
            if (size >= MAX_BODIES) {
                return false;
            }
            kinds[size] = kind;
            size++;
            return true;
        }

        boolean has(int body) {
            return body >= 0 && body < size;
        }

        boolean isUnder(int body, int kind) {
            if (!has(body)) {
                return false;
            }
            int k = kinds[body];
            for (int i = 0; i < KINDS && k >= 0; i++) {
                if (k == kind) {
                    return true;
                }
                k = ABOVE[k];
            }
            return false;
        }

        int traced(int i) {
            return i >= 0 && i < MAX_TRACE && i < ran ? trace[i] : BAD;
        }

        int perform(int body, int act, int x) {
            ran = 0;
            if (!has(body) || act < 0 || act >= ACTS) {
                return 0;
            }
            number = body;
            return call(kinds[body], kinds[body], act, x, 0);
        }

        /** Runs the first body that the act has from a kind on upwards. */
        private int call(int own, int from, int act, int x, int depth) {
            int kind = from;
            for (int i = 0; i < KINDS && kind >= 0; i++) {
                if (OWN[ACTS * kind + act] != 0) {
                    return depth < MAX_DEPTH ? run(OWN[ACTS * kind + act], own, ABOVE[kind], x, depth + 1) : 0;
                }
                kind = ABOVE[kind];
            }
            return 0;
        }

        private int run(int body, int own, int above, int x, int depth) {
            note(body);
            switch (body) {
                case 1: return x + number;
                case 2: return call(own, own, LAYS, x, depth) - call(own, own, WEARS, 1, depth);
                case 10: return call(own, own, FOLDS, x, depth) * 2;
                case 11: return x ^ number;
                case 20: return call(own, above, FOLDS, x, depth) + 3;
                case 30: return -call(own, above, LAYS, x, depth);
                case 40: return call(own, above, WEARS, x, depth) * 3;
                case 41: return call(own, above, LAYS, x + 1, depth);
                case 50: return call(own, above, WEARS, x, depth) - call(own, own, FOLDS, 2, depth);
                case 60: return call(own, above, TELLS, x, depth) ^ 5;
                case 70: return call(own, above, FOLDS, x, depth) * 2;
                case 80: return call(own, above, LAYS, x, depth) + call(own, own, WEARS, 2, depth);
                case 81: return call(own, above, TELLS, x, depth) - 1;
                default: return 0;
            }
        }

        private void note(int body) {
            if (ran < MAX_TRACE) {
                trace[ran] = body;
            }
            ran++;
        }
    }

    /** A place for nothing, a folding, or a row; a row of any sort lies in longs. */
    private static final class Shelf {
        static final int NOTHING = 0, FOLDING = 1, ROW = 2;

        int holds;
        int body;
        int sort;
        int size;
        final long[] items = new long[MAX_ROW];

        void holdFolding(int number) {
            holds = FOLDING;
            body = number;
        }

        void holdRow(int newSort, int n) {
            holds = ROW;
            sort = newSort;
            size = n;
            Arrays.fill(items, 0L);
        }

        /** Whether n elements from i on are there; n is not below 0. */
        boolean hasPart(int i, int n) {
            return i >= 0 && i <= size && n <= size - i;
        }

        void store(int i, long v) {
            items[i] = lowestBits(v);
        }

        private long lowestBits(long v) {
            switch (sort) {
                case BYTES: return (byte) v;
                case 1: return (short) v;
                case 2: return (int) v;
                case 3: return v;
                default: return v != 0 ? 1 : 0;
            }
        }
    }
}
