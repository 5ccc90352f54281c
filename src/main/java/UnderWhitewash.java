import java.util.Arrays;

/**
 * A prison whose cells get a coat of whitewash every spring, and the marks that stay under it.
 * The numbered promises of DOC.md say what each call answers.
 */
public final class UnderWhitewash {
    public static final int BAD = -1000000001, NO = -1000000002, FULL = -1000000003, NONE = -1000000005, NOTHING = -1000000011, KIND = -1000000012, INDEX = -1000000013, SIZE = -1000000014;

    private static final int CELLS = 6, MARKS = 10, RULES = 3, KEYS = 3, TEXTS = 14, TAPE = 96;
    private static final int SHEETS = 4, PLACES = 24, SLOTS = 5, WAITING = 60;

    private static final int MOST_INK = 99, MOST_WIDE = 99, MOST_SHOW = 99, MOST_EYES = 99, MOST_DIG = 99;
    private static final int MOST_DEPTH = 9999, MOST_COATS = 9999, MOST_SEEN = 9999, LAST_SPRING = 9999;
    private static final int MOST_COUNTED = 99999, MOST_FLOAT = 99999;
    private static final int FAR = 100, FARTHEST = 200, NEAR = 60, TOLD_SPRINGS = 30;

    private static final int SCRATCH = 1, SHIP = 2, TALLY = 3, VERSE = 4, LEANT = 5, LAST_KIND = 5;
    private static final int[] RIGHT_ABOVE = {-1, 0, 0, 1, 2, 0};

    private static final int THICK = 0, EYES = 1, SPOONS = 2;
    private static final int[] LEAST_RULE = {1, 0, 0};
    private static final int[] MOST_RULE = {9, 99, 100};

    private static final int BREATH = 0, FEE = 1, FINE = 2;
    private static final String BREATH_WORD = "breath", FEE_WORD = "fee", FINE_WORD = "fine";
    private static final String BREATH_NAMES = "idcn", FEE_NAMES = "sg", FINE_NAMES = "id";

    private static final int MISSING = -1, SHORTS = 0, FLOATS = 1;
    private static final int HOLDS_NOTHING = 0, HOLDS_MARK = 1, HOLDS_SHEET = 2, HOLDS_NUMBER = 3;

    private final Texts texts = new Texts();
    private final Wall now = new Wall(texts);
    private final Wall image = new Wall(texts);
    private final Wall thought = new Wall(texts);
    private boolean imageKept;
    private final Reader reader = new Reader();
    private final int[] tape = new int[TAPE];
    private int taped;
    private final Sheet[] sheets = new Sheet[SHEETS];
    private final Slot[] slots = new Slot[SLOTS];
    private final int[] waiting = new int[WAITING];
    private int waits;
    private final int[] byMark = new int[MARKS];

    public UnderWhitewash() {
        for (int k = 0; k < SHEETS; k++) {
            sheets[k] = new Sheet();
        }
        for (int k = 0; k < SLOTS; k++) {
            slots[k] = new Slot();
        }
    }

    // ---- marks, cells

    public int writes(int kind, int ink, int depth, int cell) {
        if (!isKind(kind) || !within(ink, 0, MOST_INK) || !within(depth, 0, MOST_DEPTH) || !isCell(cell)) {
            return BAD;
        }
        if (now.marks >= MARKS) {
            return FULL;
        }
        return now.add(kind, ink, depth, cell);
    }

    public int told(int mark, int what) {
        if (!isMark(mark)) {
            return BAD;
        }
        switch (what) {
            case 0: return now.kind[mark];
            case 1: return now.ink[mark];
            case 2: return now.depth[mark];
            case 3: return now.cell[mark];
            case 4: return now.seen[mark];
            case 5: return now.shows(mark);
            case 6: return now.sinks(mark);
            case 7: return now.fades(mark);
            case 8: return worthOf(now.kind[mark], now.ink[mark], now.seen[mark]);
            default: return BAD;
        }
    }

    public int as(int mark, int kind) {
        if (!isMark(mark) || !isKind(kind)) {
            return BAD;
        }
        return isOf(now.kind[mark], kind) ? now.ink[mark] : KIND;
    }

    public int turns(int mark, int kind) {
        if (!isMark(mark) || !isKind(kind)) {
            return BAD;
        }
        int was = now.kind[mark];
        now.kind[mark] = kind;
        return was;
    }

    public int set(int mark, int what, int v) {
        if (!isMark(mark)) {
            return BAD;
        }
        switch (what) {
            case 1: return replaced(now.ink, mark, v, MOST_INK);
            case 2: return replaced(now.depth, mark, v, MOST_DEPTH);
            case 3: return isCell(v) ? now.moveTo(mark, v) : BAD;
            case 4: return replaced(now.seen, mark, v, MOST_SEEN);
            default: return BAD;
        }
    }

    public int cell(int cell, int what, int v) {
        if (!isCell(cell)) {
            return BAD;
        }
        switch (what) {
            case 0: return replaced(now.wide, cell, v, MOST_WIDE);
            case 1: return replaced(now.coats, cell, v, MOST_COATS);
            default: return BAD;
        }
    }

    public int cellOf(int cell, int what) {
        if (!isCell(cell)) {
            return BAD;
        }
        switch (what) {
            case 0: return now.wide[cell];
            case 1: return now.coats[cell];
            case 2: return now.setIn(cell);
            case 3: return now.showIn(cell);
            default: return BAD;
        }
    }

    public int rule(int what, int v) {
        if (!within(what, 0, RULES - 1) || !within(v, LEAST_RULE[what], MOST_RULE[what])) {
            return BAD;
        }
        int was = now.rules[what];
        now.rules[what] = v;
        return was;
    }

    public int deal(int n) {
        if (!within(n, 1, MARKS)) {
            return BAD;
        }
        int came = Math.min(n, MARKS - now.marks);
        for (int k = 0; k < came; k++) {
            int kind = now.draw() % (LAST_KIND + 1);
            int ink = now.draw() % 70 + 30;
            int depth = now.draw() % 40;
            now.add(kind, ink, depth, now.draw() % CELLS);
        }
        return came;
    }

    public int seed(int v) {
        int was = now.z;
        now.z = v;
        return was;
    }

    public int fewest(int v, int what) {
        if (!within(v, 0, 999) || !within(what, 0, 1)) {
            return BAD;
        }
        for (int m = 0; m < now.marks; m++) {
            byMark[m] = now.shows(m);
        }
        int best = NONE;
        int fewest = MARKS + 1;
        for (int set = 0; set < 1 << now.marks; set++) {
            int many = Integer.bitCount(set);
            if (many < fewest && sumOf(set) >= v) {
                best = set;
                fewest = many;
            }
        }
        if (best == NONE) {
            return NONE;
        }
        return what == 0 ? best : fewest;
    }

    // ---- springs

    public int breathe(int cell) {
        return isCell(cell) ? now.breathOn(cell) : BAD;
    }

    public int dig(int cell, int n) {
        return isCell(cell) && within(n, 0, MOST_DIG) ? now.digOut(cell, n) : BAD;
    }

    public int springs(int n) {
        if (!within(n, 1, FAR)) {
            return BAD;
        }
        int was = now.shown;
        now.pass(Math.min(n, LAST_SPRING - now.spring));
        return now.shown - was;
    }

    public int walls(int what) {
        if (within(what, 0, 4)) {
            return now.total(what);
        }
        switch (what) {
            case 5: return now.narrowest();
            case 6: return now.legibleSet();
            default: return BAD;
        }
    }

    // ---- what will be

    public int behind(int n, int what) {
        if (!within(n, 0, FAR) || !within(what, 0, 4 + now.marks)) {
            return BAD;
        }
        thought.become(now);
        thought.pass(n);
        return what < 5 ? thought.total(what) : thought.depth[what - 5];
    }

    public int lost(int mark) {
        if (!isMark(mark)) {
            return BAD;
        }
        thought.become(now);
        thought.leaveOnly(mark);
        for (int k = 0; k <= FARTHEST; k++) {
            if (!thought.isLegible(0)) {
                return k;
            }
            thought.pass(1);
        }
        return NONE;
    }

    public int solid(int cell) {
        if (!isCell(cell)) {
            return BAD;
        }
        thought.become(now);
        thought.leaveNone();
        for (int k = 0; k <= FARTHEST; k++) {
            if (thought.wide[cell] == 0) {
                return k;
            }
            thought.pass(1);
        }
        return NONE;
    }

    public int spoon(int mark, int n) {
        if (!isMark(mark) || !within(n, 0, NEAR)) {
            return BAD;
        }
        for (int by = 0; by <= MOST_DIG; by++) {
            thought.become(now);
            thought.leaveOnly(mark);
            thought.digOut(now.cell[mark], by);
            thought.pass(n);
            if (thought.isLegible(0)) {
                return by;
            }
        }
        return NONE;
    }

    public int place(int mark, int n, int what) {
        if (!isMark(mark) || !within(n, 1, NEAR) || !within(what, 0, 1)) {
            return BAD;
        }
        int best = 0;
        int most = -1;
        for (int c = 0; c < CELLS; c++) {
            thought.become(now);
            thought.moveTo(mark, c);
            thought.pass(n);
            if (thought.shown > most) {
                best = c;
                most = thought.shown;
            }
        }
        return what == 0 ? best : most;
    }

    public int becomes(int mark, int n, int what) {
        if (!isMark(mark) || !within(n, 1, NEAR) || !within(what, 0, 1)) {
            return BAD;
        }
        int best = 0;
        int most = -1;
        for (int k = 0; k <= LAST_KIND; k++) {
            thought.become(now);
            thought.kind[mark] = k;
            thought.pass(n);
            if (thought.shown > most) {
                best = k;
                most = thought.shown;
            }
        }
        return what == 0 ? best : most;
    }

    /*
     * With any eyes above the best mark that was passed over, all goes just as it went: so the next
     * eyes worth a try are those that would have seen that mark, and the answer skips none.
     */
    public int eyes(int n, int v) {
        if (!within(n, 0, NEAR) || !within(v, 0, MOST_COUNTED)) {
            return BAD;
        }
        int tried = MOST_EYES;
        for (int k = 0; k <= MOST_EYES && tried >= 0; k++) {
            thought.become(now);
            thought.rules[EYES] = tried;
            thought.bestUnseen = -1;
            thought.pass(n);
            if (thought.shown >= v) {
                return tried;
            }
            tried = thought.bestUnseen;
        }
        return NONE;
    }

    public int like(int sheet, int what) {
        if (!isSheet(sheet) || !within(what, 0, 1)) {
            return BAD;
        }
        if (isMissing(sheet)) {
            return NOTHING;
        }
        if (now.marks == 0) {
            return NONE;
        }
        sumDifferences(sheets[sheet]);
        int best = 0;
        for (int m = 1; m < now.marks; m++) {
            if (byMark[m] < byMark[best]) {
                best = m;
            }
        }
        return what == 0 ? best : byMark[best];
    }

    public int fee() {
        int text = now.counts[FEE];
        return text == NONE ? now.shown : texts.gives(text, now.shown, now.dug, 0, 0);
    }

    public int fine(int mark) {
        if (!isMark(mark)) {
            return BAD;
        }
        int text = now.counts[FINE];
        return text == NONE ? now.ink[mark] : texts.gives(text, now.ink[mark], now.depth[mark], 0, 0);
    }

    // ---- texts

    public int feed(int a, int b, int c) {
        if (taped > TAPE - 12) {
            return FULL;
        }
        putBytes(a);
        putBytes(b);
        putBytes(c);
        return taped;
    }

    public int trim(int n) {
        if (!within(n, 0, taped)) {
            return BAD;
        }
        taped = n;
        return n;
    }

    public int text() {
        int many = taped;
        taped = 0;
        int fault = reader.faultOf(tape, many);
        if (fault >= 0) {
            return -100 - fault;
        }
        if (now.textsTold >= TEXTS) {
            return FULL;
        }
        int number = now.textsTold;
        texts.take(number, reader);
        now.counts[reader.key] = number;
        now.textsTold = number + 1;
        return number;
    }

    public int textTold(int text, int what) {
        if (!within(text, 0, now.textsTold - 1)) {
            return BAD;
        }
        switch (what) {
            case 0: return texts.key[text];
            case 1: return texts.leaves[text];
            default: return BAD;
        }
    }

    public int why(int key) {
        return within(key, 0, KEYS - 1) ? now.counts[key] : BAD;
    }

    // ---- sheets, slots

    public int sheet(int sheet, int sort, int n) {
        if (!isSheet(sheet) || !within(sort, MISSING, FLOATS)) {
            return BAD;
        }
        int places = sort == MISSING ? 0 : n;
        if (places > PLACES) {
            return BAD;
        }
        if (places < 0) {
            return SIZE;
        }
        sheets[sheet].clear(sort, places);
        return places;
    }

    public int mark(int sheet, int place, int v) {
        if (!isSheet(sheet)) {
            return BAD;
        }
        if (isMissing(sheet)) {
            return NOTHING;
        }
        Sheet s = sheets[sheet];
        if (!within(place, 0, s.places - 1)) {
            return INDEX;
        }
        if (s.sort == SHORTS && v == NONE) {
            return KIND;
        }
        if (s.sort == FLOATS && v != NONE && !within(v, -MOST_FLOAT, MOST_FLOAT)) {
            return BAD;
        }
        s.row[place] = s.sort == SHORTS ? (short) v : v;
        return 1;
    }

    public int pour(int sheet) {
        if (!isSheet(sheet)) {
            return BAD;
        }
        if (isMissing(sheet)) {
            return NOTHING;
        }
        Sheet s = sheets[sheet];
        int otherwise = 0;
        for (int m = 0; m < now.marks && m < s.places; m++) {
            int ink = s.row[m] == NONE ? now.ink[m] : held(s.row[m], MOST_INK);
            otherwise += ink == now.ink[m] ? 0 : 1;
            now.ink[m] = ink;
        }
        return otherwise;
    }

    public int reads(int sheet) {
        if (!isSheet(sheet)) {
            return BAD;
        }
        if (isMissing(sheet)) {
            return NOTHING;
        }
        Sheet s = sheets[sheet];
        for (int k = 0; k < s.places; k++) {
            if (s.row[k] != NONE && (k >= now.marks || s.row[k] != now.cell[k])) {
                return k;
            }
        }
        return NONE;
    }

    public int copy(int from, int place, int to, int at, int many) {
        if (!isSheet(from) || !isSheet(to)) {
            return BAD;
        }
        if (isMissing(from) || isMissing(to)) {
            return NOTHING;
        }
        Sheet source = sheets[from];
        Sheet target = sheets[to];
        if (source.sort != target.sort) {
            return KIND;
        }
        if (!source.hasRun(place, many) || !target.hasRun(at, many)) {
            return INDEX;
        }
        System.arraycopy(source.row, place, target.row, at, many);
        return many;
    }

    public int lay(int slot, int thing, int k) {
        if (!isSlot(slot) || !within(thing, HOLDS_NOTHING, HOLDS_NUMBER)) {
            return BAD;
        }
        if (thing == HOLDS_MARK && !isMark(k) || thing == HOLDS_SHEET && !isSheet(k)) {
            return BAD;
        }
        if (thing == HOLDS_SHEET && isMissing(k)) {
            return NOTHING;
        }
        Slot s = slots[slot];
        int held = s.thing;
        s.thing = thing;
        if (thing == HOLDS_MARK) {
            s.takeMark(now.kind[k], now.ink[k], now.seen[k]);
        } else if (thing == HOLDS_SHEET) {
            s.sheet.become(sheets[k]);
        } else if (thing == HOLDS_NUMBER) {
            s.number = k;
        }
        return held;
    }

    public int ask(int slot, int kind) {
        if (!isSlot(slot) || !isKind(kind)) {
            return BAD;
        }
        Slot s = slots[slot];
        if (s.thing == HOLDS_NOTHING) {
            return NOTHING;
        }
        if (s.thing != HOLDS_MARK || !isOf(s.kind, kind)) {
            return KIND;
        }
        return worthOf(s.kind, s.ink, s.seen);
    }

    public int item(int slot, int place) {
        if (!isSlot(slot)) {
            return BAD;
        }
        Slot s = slots[slot];
        if (s.thing == HOLDS_NOTHING) {
            return NOTHING;
        }
        if (s.thing != HOLDS_SHEET) {
            return KIND;
        }
        if (!within(place, 0, s.sheet.places - 1)) {
            return INDEX;
        }
        int v = s.sheet.row[place];
        return v == NONE ? KIND : v;
    }

    public int rest(int slot, int n) {
        if (!isSlot(slot)) {
            return BAD;
        }
        Slot s = slots[slot];
        if (s.thing == HOLDS_NOTHING) {
            return NOTHING;
        }
        if (s.thing != HOLDS_NUMBER) {
            return KIND;
        }
        return n == 0 ? NO : s.number % n;
    }

    // ---- rows, images

    public int tell(int v) {
        if (waits >= WAITING) {
            return FULL;
        }
        waiting[waits] = v;
        waits++;
        return waits;
    }

    public int check(int n) {
        int told = waits;
        waits = 0;
        if (!within(n, 1, TOLD_SPRINGS)) {
            return BAD;
        }
        if (!imageKept) {
            return NO;
        }
        thought.become(image);
        int due = 2 * Math.min(n, LAST_SPRING - thought.spring);
        for (int k = 0; k < due; k++) {
            if (k % 2 == 0) {
                thought.pass(1);
            }
            if (k >= told || waiting[k] != thought.total(k % 2 == 0 ? 0 : 2)) {
                return 1 + k;
            }
        }
        return told == due ? 0 : 1 + due;
    }

    public int keep() {
        image.become(now);
        imageKept = true;
        return image.marks;
    }

    public int back() {
        if (!imageKept) {
            return NO;
        }
        now.become(image);
        return now.marks;
    }

    public int count(int what) {
        switch (what) {
            case 0: return now.marks;
            case 1: return now.spring;
            case 2: return now.rules[THICK];
            case 3: return now.rules[EYES];
            case 4: return now.rules[SPOONS];
            case 5: return now.textsTold;
            case 6: return waits;
            case 7: return taped;
            case 8: return now.z;
            default: return BAD;
        }
    }

    // ---- what the calls share

    private static boolean within(int v, int least, int most) {
        return v >= least && v <= most;
    }

    private static int held(int v, int most) {
        return Math.max(0, Math.min(most, v));
    }

    private static boolean isKind(int kind) {
        return within(kind, 0, LAST_KIND);
    }

    private static boolean isCell(int cell) {
        return within(cell, 0, CELLS - 1);
    }

    private static boolean isSlot(int slot) {
        return within(slot, 0, SLOTS - 1);
    }

    private static boolean isSheet(int sheet) {
        return within(sheet, 0, SHEETS - 1);
    }

    private boolean isMark(int mark) {
        return within(mark, 0, now.marks - 1);
    }

    private boolean isMissing(int sheet) {
        return sheets[sheet].sort == MISSING;
    }

    private static boolean isOf(int kind, int wanted) {
        int k = kind;
        for (int level = 0; level <= LAST_KIND && isKind(k); level++) {
            if (k == wanted) {
                return true;
            }
            k = RIGHT_ABOVE[k];
        }
        return false;
    }

    private static int worthOf(int kind, int ink, int seen) {
        switch (kind) {
            case SCRATCH: return ink + seen;
            case TALLY: return (ink + seen) / 2;
            case SHIP: return 99 - ink;
            case VERSE: return 99 - ink + 7;
            case LEANT: return seen;
            default: return ink;
        }
    }

    private static int replaced(int[] row, int place, int v, int most) {
        if (!within(place, 0, row.length - 1) || !within(v, 0, most)) {
            return BAD;
        }
        int was = row[place];
        row[place] = v;
        return was;
    }

    private int sumOf(int set) {
        int sum = 0;
        for (int m = 0; m < MARKS; m++) {
            if ((set >> m & 1) != 0) {
                sum += byMark[m];
            }
        }
        return sum;
    }

    private void sumDifferences(Sheet sheet) {
        Arrays.fill(byMark, 0);
        thought.become(now);
        for (int k = 0; k < sheet.places; k++) {
            for (int m = 0; m < thought.marks && sheet.row[k] != NONE; m++) {
                byMark[m] += Math.abs(thought.depth[m] - sheet.row[k]);
            }
            thought.pass(1);
        }
    }

    private void putBytes(int v) {
        for (int shift = 24; shift >= 0 && taped < TAPE; shift -= 8) {
            tape[taped] = v >>> shift & 255;
            taped++;
        }
    }

    /** All that an image keeps. */
    private static final class Wall {
        final Texts texts;
        final int[] wide = new int[CELLS];
        final int[] coats = new int[CELLS];
        final int[] crowd = new int[CELLS];
        final int[] kind = new int[MARKS];
        final int[] ink = new int[MARKS];
        final int[] depth = new int[MARKS];
        final int[] cell = new int[MARKS];
        final int[] seen = new int[MARKS];
        final int[] rules = new int[RULES];
        final int[] counts = new int[KEYS];
        int marks;
        int shown;
        int dug;
        int spring;
        int z = 1;
        int textsTold;
        int bestUnseen = -1;

        Wall(Texts texts) {
            this.texts = texts;
            Arrays.fill(wide, 60);
            Arrays.fill(counts, NONE);
            rules[THICK] = 3;
            rules[EYES] = 20;
        }

        /*
         * The texts themselves need no copy: only back() makes their number less, and that never below
         * the number that the image has, so none that an image knows is ever written over.
         */
        void become(Wall other) {
            System.arraycopy(other.wide, 0, wide, 0, CELLS);
            System.arraycopy(other.coats, 0, coats, 0, CELLS);
            System.arraycopy(other.crowd, 0, crowd, 0, CELLS);
            System.arraycopy(other.kind, 0, kind, 0, MARKS);
            System.arraycopy(other.ink, 0, ink, 0, MARKS);
            System.arraycopy(other.depth, 0, depth, 0, MARKS);
            System.arraycopy(other.cell, 0, cell, 0, MARKS);
            System.arraycopy(other.seen, 0, seen, 0, MARKS);
            System.arraycopy(other.rules, 0, rules, 0, RULES);
            System.arraycopy(other.counts, 0, counts, 0, KEYS);
            marks = other.marks;
            shown = other.shown;
            dug = other.dug;
            spring = other.spring;
            z = other.z;
            textsTold = other.textsTold;
        }

        int add(int newKind, int newInk, int newDepth, int newCell) {
            if (marks >= MARKS) {
                return FULL;
            }
            int m = marks;
            kind[m] = newKind;
            ink[m] = newInk;
            depth[m] = newDepth;
            cell[m] = newCell;
            seen[m] = 0;
            crowd[newCell]++;
            marks++;
            return m;
        }

        int moveTo(int m, int to) {
            int from = cell[m];
            crowd[from]--;
            crowd[to]++;
            cell[m] = to;
            return from;
        }

        /*
         * Marks bear on each other only by how many are in a cell (and crowd stays as it is), so what
         * becomes of one can be thought without the others; it is mark 0 then.
         */
        void leaveOnly(int m) {
            kind[0] = kind[m];
            ink[0] = ink[m];
            depth[0] = depth[m];
            cell[0] = cell[m];
            seen[0] = seen[m];
            marks = 1;
        }

        /* No mark bears on how wide a cell is. */
        void leaveNone() {
            marks = 0;
        }

        int draw() {
            z = z * 1103515245 + 12345;
            return z >>> 8;
        }

        int plain(int m) {
            int text = counts[BREATH];
            int c = cell[m];
            int given = text == NONE ? ink[m] - depth[m] : texts.gives(text, ink[m], depth[m], coats[c], crowd[c]);
            return held(given, MOST_SHOW);
        }

        int shows(int m) {
            int others = crowd[cell[m]] - 1;
            switch (kind[m]) {
                case SCRATCH: return Math.min(MOST_SHOW, plain(m) + 5);
                case TALLY: return Math.min(MOST_SHOW, plain(m) + 5) / 2;
                case SHIP: return Math.min(MOST_SHOW, plain(m) + 2 * others);
                case VERSE: return Math.max(0, Math.min(MOST_SHOW, plain(m) + 2 * others) - 10);
                case LEANT: return 20;
                default: return plain(m);
            }
        }

        int sinks(int m) {
            int narrow = wide[cell[m]] < 30 ? 1 : 0;
            switch (kind[m]) {
                case TALLY: return 2;
                case SHIP: return 1 + narrow;
                case VERSE: return 1 + narrow + 1;
                case LEANT: return 0;
                default: return 1;
            }
        }

        int fades(int m) {
            switch (kind[m]) {
                case TALLY: return 3;
                case SHIP: return 0;
                case VERSE: return 3;
                case LEANT: return 5;
                default: return 1;
            }
        }

        boolean isLegible(int m) {
            return shows(m) >= rules[EYES];
        }

        int legibleSet() {
            int set = 0;
            for (int m = 0; m < marks; m++) {
                set |= isLegible(m) ? 1 << m : 0;
            }
            return set;
        }

        int setIn(int c) {
            int set = 0;
            for (int m = 0; m < marks; m++) {
                set |= cell[m] == c ? 1 << m : 0;
            }
            return set;
        }

        int showIn(int c) {
            int sum = 0;
            for (int m = 0; m < marks; m++) {
                sum += cell[m] == c ? shows(m) : 0;
            }
            return sum;
        }

        int narrowest() {
            int best = 0;
            for (int c = 1; c < CELLS; c++) {
                if (wide[c] < wide[best]) {
                    best = c;
                }
            }
            return best;
        }

        int total(int what) {
            switch (what) {
                case 0: return shown;
                case 1: return dug;
                case 2: return sumOfMarks(depth);
                case 3: return sumOfMarks(ink);
                case 4: return sumOfMarks(seen);
                default: return BAD;
            }
        }

        int sumOfMarks(int[] row) {
            int sum = 0;
            for (int m = 0; m < marks && m < row.length; m++) {
                sum += row[m];
            }
            return sum;
        }

        /* All marks sink first: no coat bears on another cell, and each sinks by how wide its cell was. */
        void coatAll() {
            for (int m = 0; m < marks; m++) {
                depth[m] = Math.min(MOST_DEPTH, depth[m] + sinks(m));
            }
            int thick = rules[THICK];
            for (int c = 0; c < CELLS; c++) {
                coats[c] = Math.min(MOST_COATS, coats[c] + 1);
                if (thick > 0 && coats[c] % thick == 0 && wide[c] > 0) {
                    wide[c]--;
                }
            }
        }

        /* One by one is as good as all at once: what a mark shows hangs on no other's ink or seen. */
        int breathOn(int c) {
            int legible = 0;
            for (int m = 0; m < marks; m++) {
                if (cell[m] == c) {
                    int much = shows(m);
                    if (much >= rules[EYES]) {
                        legible++;
                        seen[m] = Math.min(MOST_SEEN, seen[m] + 1);
                        ink[m] = Math.max(0, ink[m] - fades(m));
                    } else {
                        bestUnseen = Math.max(bestUnseen, much);
                    }
                }
            }
            shown = Math.min(MOST_COUNTED, shown + legible);
            return legible;
        }

        int digOut(int c, int n) {
            int less = Math.min(n, coats[c]);
            coats[c] -= less;
            dug = Math.min(MOST_COUNTED, dug + less);
            int thick = rules[THICK];
            wide[c] = Math.min(MOST_WIDE, wide[c] + (thick > 0 ? n / thick : 0));
            for (int m = 0; m < marks; m++) {
                if (cell[m] == c) {
                    depth[m] = Math.max(0, depth[m] - n);
                }
            }
            return less;
        }

        void spoonByChance() {
            if (draw() % 100 < rules[SPOONS]) {
                int c = draw() % CELLS;
                digOut(c, draw() % 10);
            }
        }

        void pass(int many) {
            for (int k = 0; k < many; k++) {
                coatAll();
                breathOn(spring % CELLS);
                spoonByChance();
                spring++;
            }
        }
    }

    /** The texts, each as steps in the order in which a stack works them out. */
    private static final class Texts {
        final int[][] steps = new int[TEXTS][TAPE];
        final int[] size = new int[TEXTS];
        final int[] key = new int[TEXTS];
        final int[] leaves = new int[TEXTS];
        final int[] stack = new int[TAPE];

        void take(int text, Reader reader) {
            if (!within(text, 0, TEXTS - 1)) {
                return;
            }
            System.arraycopy(reader.steps, 0, steps[text], 0, reader.size);
            size[text] = reader.size;
            key[text] = reader.key;
            leaves[text] = reader.leaves;
        }

        /* A step is a number (0 or more), a name (-1 .. -4: first .. fourth) or a sign (less its byte). */
        int gives(int text, int first, int second, int third, int fourth) {
            if (!within(text, 0, TEXTS - 1)) {
                return 0;
            }
            int top = -1;
            for (int k = 0; k < size[text] && k < TAPE; k++) {
                int step = steps[text][k];
                if (step >= -4 && top < TAPE - 1) {
                    top++;
                    switch (step) {
                        case -1: stack[top] = first; break;
                        case -2: stack[top] = second; break;
                        case -3: stack[top] = third; break;
                        case -4: stack[top] = fourth; break;
                        default: stack[top] = step;
                    }
                } else if (step == -'!' && top >= 0) {
                    stack[top] = stack[top] == 0 ? 1 : 0;
                } else if (top >= 1) {
                    top--;
                    stack[top] = joined(-step, stack[top], stack[top + 1]);
                }
            }
            return top < 0 ? 0 : stack[top];
        }

        static int joined(int sign, int a, int b) {
            switch (sign) {
                case '+': return a + b;
                case '-': return a - b;
                case '*': return a * b;
                case '/': return b == 0 ? 0 : a / b;
                case '<': return a < b ? 1 : 0;
                case '=': return a == b ? 1 : 0;
                case '>': return a > b ? 1 : 0;
                case '&': return a != 0 && b != 0 ? 1 : 0;
                case '|': return a != 0 || b != 0 ? 1 : 0;
                default: return 0;
            }
        }
    }

    /** Reads a tape: its fault, or else its steps. Behind a fault nothing is read any more. */
    private static final class Reader {
        static final int SIGN = 0, LETTERS = 1, DIGITS = 2, NO_BLANK = 3, END = 4;
        static final int OR = 0, AND = 1, TEST = 2, SUM = 3, TERM = 4, PIECE = 5;
        static final int MOST_OPEN = 8, MOST_DIGITS = 4;

        final int[] steps = new int[TAPE];
        int size;
        int key;
        int leaves;
        int[] tape = new int[0];
        int length;
        int sort;
        int at;
        int behind;
        int fault;

        int faultOf(int[] bytes, int many) {
            tape = bytes;
            length = Math.min(many, bytes.length);
            size = 0;
            leaves = 0;
            sort = SIGN;
            behind = 0;
            fault = -1;
            goOn();
            key = keyRead();
            if (key < 0) {
                return at;
            }
            goOn();
            readLevel(OR, 0, 0);
            if (sort != END) {
                stop();
            }
            return fault;
        }

        void goOn() {
            boolean wordAhead = sort == LETTERS || sort == DIGITS;
            int last = behind;
            at = last;
            while (at < length && tape[at] == ' ') {
                at++;
            }
            sort = at < length ? sortOf(tape[at]) : END;
            behind = at + 1;
            if (sort == LETTERS || sort == DIGITS) {
                while (behind < length && sortOf(tape[behind]) == sort) {
                    behind++;
                }
                if (wordAhead && at == last) {
                    sort = NO_BLANK;
                }
            }
        }

        static int sortOf(int sign) {
            if (sign >= 'a' && sign <= 'z') {
                return LETTERS;
            }
            return sign >= '0' && sign <= '9' ? DIGITS : SIGN;
        }

        void stop() {
            if (fault < 0) {
                fault = at;
            }
        }

        boolean isSign(int sign) {
            return fault < 0 && sort == SIGN && at < length && tape[at] == sign;
        }

        boolean isWord(String word) {
            boolean same = sort == LETTERS && behind - at == word.length() && behind <= length;
            for (int k = 0; same && k < word.length(); k++) {
                same = tape[at + k] == word.charAt(k);
            }
            return same;
        }

        int keyRead() {
            if (isWord(BREATH_WORD)) {
                return BREATH;
            }
            if (isWord(FEE_WORD)) {
                return FEE;
            }
            return isWord(FINE_WORD) ? FINE : -1;
        }

        int nameRead() {
            if (sort != LETTERS || behind - at != 1 || at >= length) {
                return -1;
            }
            String names = key == BREATH ? BREATH_NAMES : key == FEE ? FEE_NAMES : FINE_NAMES;
            return names.indexOf((char) tape[at]);
        }

        int numberRead() {
            int v = 0;
            for (int k = at; k < behind && k < length; k++) {
                v = v * 10 + tape[k] - '0';
            }
            return v;
        }

        void put(int step) {
            if (size < TAPE) {
                steps[size] = step;
                size++;
            }
        }

        void putLeaf(int step) {
            put(step);
            leaves++;
            goOn();
        }

        static String signsOf(int level) {
            switch (level) {
                case OR: return "|";
                case AND: return "&";
                case TEST: return "<=>";
                case SUM: return "+-";
                case TERM: return "*/";
                default: return "";
            }
        }

        boolean isSignOf(int level) {
            return fault < 0 && sort == SIGN && at < length && signsOf(level).indexOf((char) tape[at]) >= 0;
        }

        private void readLevel(int level, int open, int nots) {
            if (level >= PIECE) {
                readPiece(open, nots);
                return;
            }
            readLevel(level + 1, open, nots);
            int most = level == TEST ? 1 : TAPE;
            for (int k = 0; k < most && isSignOf(level); k++) {
                int sign = tape[at];
                goOn();
                readLevel(level + 1, open, nots);
                put(-sign);
            }
        }

        private void readPiece(int open, int nots) {
            int name = nameRead();
            if (sort == DIGITS && behind - at <= MOST_DIGITS) {
                putLeaf(numberRead());
            } else if (name >= 0) {
                putLeaf(-1 - name);
            } else if (isSign('!') && nots < MOST_OPEN) {
                goOn();
                readPiece(open, nots + 1);
                put(-'!');
            } else if (isSign('(') && open < MOST_OPEN) {
                goOn();
                readLevel(OR, open + 1, nots);
                if (isSign(')')) {
                    goOn();
                } else {
                    stop();
                }
            } else {
                stop();
            }
        }
    }

    /** A row; in a row of floats NONE, which no place can be otherwise, stands for no number. */
    private static final class Sheet {
        final int[] row = new int[PLACES];
        int sort = MISSING;
        int places;

        void clear(int newSort, int newPlaces) {
            Arrays.fill(row, 0);
            sort = newSort;
            places = newPlaces;
        }

        void become(Sheet other) {
            System.arraycopy(other.row, 0, row, 0, PLACES);
            sort = other.sort;
            places = other.places;
        }

        boolean hasRun(int from, int many) {
            return from >= 0 && many >= 0 && from <= places && many <= places - from;
        }
    }

    /** What a slot holds is its own: a mark or a sheet as it was when it was laid there. */
    private static final class Slot {
        final Sheet sheet = new Sheet();
        int thing = HOLDS_NOTHING;
        int number;
        int kind;
        int ink;
        int seen;

        void takeMark(int itsKind, int itsInk, int itsSeen) {
            kind = itsKind;
            ink = itsInk;
            seen = itsSeen;
        }
    }
}
