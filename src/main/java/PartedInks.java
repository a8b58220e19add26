/**
 * Colours parted: a small drawing that is printed by five inks, one over the other.
 * Every answer below 0 is one of the constants, or a FAULT of a text (-20 and below).
 */
public final class PartedInks {
    public static final int BAD = -1, NOT = -2, FULL = -3, NONE = -4, NULL = -11, CAST = -12, INDEX = -13, SIZE = -14;

    private static final int FINE = 0;
    private static final int FIRST_FAULT = -20;

    private static final int INKS = 5;
    private static final int SETS = 32;
    private static final int ALL_INKS = 31;
    private static final int ORDERS = 120;
    private static final int LAST_ORDER = 43210;

    private static final int KINDS = 4;
    private static final int OPAQUE = 1;
    private static final int MILKY = 2;
    private static final int METAL = 3;

    private static final int TONES = 4096;
    private static final int BRIGHTEST = 15;
    private static final int DARKEST = 45;

    private static final int WIDEST = 8;
    private static final int HIGHEST = 6;
    private static final int MOST_PLACES = 48;
    private static final int MOST_UNDONE = 6;
    private static final int MOST_TURNS = 40;
    private static final int MOST_LETTERS = 100;

    private static final int SHEETS = 4;
    private static final int LANES = 4;
    private static final int MOST_ITEMS = 24;
    private static final int MOST_PAIRS = 6;

    private static final int[] FIRST_TONES = {0xff0, 0xf0f, 0x0ff, 0x888, 0x444};
    /** How many orders there are of the inks behind each place of the order. */
    private static final int[] ORDERS_BEHIND = {24, 6, 2, 1, 1};
    private static final int[] SIDE_X = {0, -1, 1, 0};
    private static final int[] SIDE_Y = {-1, 0, 0, 1};

    private final State now = new State();
    private final Past past = new Past();
    private final State keptNow = new State();
    private final Past keptPast = new Past();
    private boolean kept = false;
    private final Looks looks = new Looks();
    private final Areas areas = new Areas();
    private final Tape tape = new Tape();
    private final Row[] rows = new Row[SHEETS];
    private final int[] grown = new int[MOST_PLACES];
    private final int[] triedOrder = new int[INKS];
    private final int[] triedKinds = new int[INKS];

    public PartedInks() {
        for (int k = 0; k < SHEETS; k++) {
            rows[k] = new Row();
        }
    }

    // ---- 1 inks, the drawing

    public int ink(int ink, int what) {
        if (!isBelow(ink, INKS)) {
            return BAD;
        }
        switch (what) {
            case 0: return now.kinds[ink];
            case 1: return now.tones[ink];
            case 2: return now.placeInOrder(ink);
            case 3: return darkOf(lookNow(1 << ink));
            case 4: return now.placesWithInk(ink);
            default: return BAD;
        }
    }

    public int set(int set, int what) {
        if (!isBelow(set, SETS)) {
            return BAD;
        }
        switch (what) {
            case 0: return lookNow(set);
            case 1: return darkOf(lookNow(set));
            case 2: return alikeTo(set);
            case 3: return now.placesOfSet(set);
            default: return BAD;
        }
    }

    public int place(int x, int y, int what) {
        if (!now.isInside(x, y)) {
            return BAD;
        }
        switch (what) {
            case 0: return now.at(x, y);
            case 1: return lookNow(now.at(x, y));
            case 2:
                areas.find(now);
                return areas.at(x, y);
            default: return BAD;
        }
    }

    public int area(int area, int what) {
        areas.find(now);
        if (!isBelow(area, areas.many)) {
            return BAD;
        }
        int x = areas.firstX(area);
        int y = areas.firstY(area);
        switch (what) {
            case 0: return now.at(x, y);
            case 1: return areas.placesOf(area);
            case 2: return areas.neighboursOf(area, now);
            case 3: return x;
            case 4: return y;
            case 5: return areas.greaterThan(area);
            default: return BAD;
        }
    }

    public int type(int letter) {
        if (letter < 32 || letter > 126) {
            return BAD;
        }
        return tape.add(letter) ? tape.many : FULL;
    }

    public int draw() {
        boolean isDrawing = tape.read();
        tape.many = 0;
        if (!isDrawing) {
            return FIRST_FAULT - tape.next;
        }
        now.become(tape.sets, tape.wide, tape.lines);
        past.known = 0;
        return now.wide * now.high;
    }

    public int count(int what) {
        switch (what) {
            case 0: return now.wide;
            case 1: return now.high;
            case 2: return figuresOf(now.order);
            case 3:
                areas.find(now);
                return areas.many;
            case 4: return unlikeLooks();
            case 5: return fewestInks();
            case 6: return worstAside();
            case 7: return worstGaps();
            case 8: return ordersAlike();
            case 9: return firstOrderAlike();
            case 10: return orderByDark();
            case 11: return now.inksDrawn();
            case 12: return past.known;
            default: return BAD;
        }
    }

    // ---- what is done

    public int tell(int ink, int kind, int tone) {
        if (!isBelow(ink, INKS) || !isBelow(kind, KINDS) || !isBelow(tone, TONES)) {
            return BAD;
        }
        if (now.kinds[ink] == kind && now.tones[ink] == tone) {
            return NOT;
        }
        past.keep(now);
        now.kinds[ink] = kind;
        now.tones[ink] = tone;
        return 1;
    }

    public int order(int figures) {
        if (!isOrder(figures)) {
            return BAD;
        }
        int was = figuresOf(now.order);
        if (was == figures) {
            return NOT;
        }
        past.keep(now);
        int rest = figures;
        for (int k = INKS - 1; k >= 0; k--) {
            now.order[k] = rest % 10;
            rest = rest / 10;
        }
        return was;
    }

    public int put(int x, int y, int set) {
        if (!now.isInside(x, y) || !isBelow(set, SETS)) {
            return BAD;
        }
        int was = now.at(x, y);
        if (was == set) {
            return NOT;
        }
        past.keep(now);
        now.write(x, y, set);
        return was;
    }

    public int fill(int area, int set) {
        areas.find(now);
        if (!isBelow(area, areas.many) || !isBelow(set, SETS)) {
            return BAD;
        }
        if (now.at(areas.firstX(area), areas.firstY(area)) == set) {
            return NOT;
        }
        past.keep(now);
        for (int y = 0; y < now.high; y++) {
            for (int x = 0; x < now.wide; x++) {
                if (areas.at(x, y) == area) {
                    now.write(x, y, set);
                }
            }
        }
        return areas.placesOf(area);
    }

    public int grow() {
        growAside();
        int changed = 0;
        for (int k = 0; k < MOST_PLACES; k++) {
            if (grown[k] != now.sets[k]) {
                changed++;
            }
        }
        if (changed == 0) {
            return NOT;
        }
        past.keep(now);
        System.arraycopy(grown, 0, now.sets, 0, MOST_PLACES);
        return changed;
    }

    public int size(int what, int v) {
        if (!isBelow(what, 2) || v < 1 || v > (what == 0 ? WIDEST : HIGHEST)) {
            return BAD;
        }
        int was = what == 0 ? now.wide : now.high;
        if (was == v) {
            return NOT;
        }
        past.keep(now);
        if (what == 0) {
            now.wide = v;
        } else {
            now.high = v;
        }
        now.clearOutside();
        return was;
    }

    public int drift(int n) {
        if (n < 1 || n > MOST_TURNS) {
            return BAD;
        }
        for (int turn = 0; turn < n; turn++) {
            past.keep(now);
            driftOnce();
        }
        areas.find(now);
        return areas.many;
    }

    public int undo() {
        return past.bring(now) ? past.known : NONE;
    }

    public int seed(int v) {
        if (v < 0) {
            return BAD;
        }
        int was = now.drawn;
        now.drawn = v;
        return was;
    }

    // ---- 2 looked for

    public int gaps(int ink, int dx, int dy) {
        return isPlateAside(ink, dx, dy) ? gapsBy(ink, dx, dy) : BAD;
    }

    public int aside(int ink, int dx, int dy, int x, int y) {
        if (!isPlateAside(ink, dx, dy) || !now.isInside(x, y)) {
            return BAD;
        }
        return printedBy(ink, dx, dy, x, y);
    }

    public int fail(int c, int what) {
        if (c < 0 || c > 10 || !isBelow(what, 2)) {
            return BAD;
        }
        int above = gaplessOdds(c);
        int below = power(10, Integer.bitCount(now.inksDrawn()));
        int common = commonDivisor(above, below);
        if (common < 1) {
            return BAD;
        }
        return (what == 0 ? above : below) / common;
    }

    public int image() {
        keptNow.become(now);
        keptPast.become(past);
        kept = true;
        return 1;
    }

    public int restore() {
        if (!kept) {
            return NONE;
        }
        now.become(keptNow);
        past.become(keptPast);
        return 1;
    }

    // ---- 3 sheets 0 .. 3: nothing (at first), or a row of a LANE: 0 bytes, 1 shorts, 2 ints, 3 longs
    // (all with a sign), of 0 to 24 items

    public int seen(int ink, int sheet, int lane, int i, int n) {
        if (!isBelow(ink, INKS) || !isTaking(sheet, lane) || n < 1 || n > MOST_PAIRS) {
            return BAD;
        }
        Row row = rows[sheet];
        int found = row.whyNot(lane, i, 2 * n);
        if (found != FINE) {
            return found;
        }
        return tellsSets(row, i, n) ? kindsSeen(ink, row, i, n) : NOT;
    }

    public int film(int y, int sheet, int lane, int i) {
        if (!isBelow(y, now.high) || !isTaking(sheet, lane)) {
            return BAD;
        }
        Row row = rows[sheet];
        int found = row.whyNot(lane, i, now.wide);
        if (found != FINE) {
            return found;
        }
        for (int x = 0; x < now.wide; x++) {
            row.write(i + x, lookNow(now.at(x, y)));
        }
        return now.wide;
    }

    public int sheet(int sheet, int lane, int n) {
        if (!isTaking(sheet, lane) || n > MOST_ITEMS) {
            return BAD;
        }
        if (n < 0) {
            return SIZE;
        }
        rows[sheet].begin(lane, n);
        return n;
    }

    public int drop(int sheet) {
        if (!isBelow(sheet, SHEETS)) {
            return BAD;
        }
        Row row = rows[sheet];
        if (!row.there) {
            return NULL;
        }
        row.there = false;
        return row.many;
    }

    public int item(int sheet, int lane, int i, long v) {
        if (!isTaking(sheet, lane)) {
            return BAD;
        }
        int found = rows[sheet].whyNot(lane, i, 1);
        if (found != FINE) {
            return found;
        }
        rows[sheet].write(i, v);
        return 1;
    }

    public int copy(int from, int i, int to, int j, int n) {
        if (!isBelow(from, SHEETS) || !isBelow(to, SHEETS)) {
            return BAD;
        }
        Row source = rows[from];
        Row target = rows[to];
        if (!source.there || !target.there) {
            return NULL;
        }
        if (source.lane != target.lane) {
            return CAST;
        }
        if (!source.hasItems(i, n) || !target.hasItems(j, n)) {
            return INDEX;
        }
        System.arraycopy(source.items, i, target.items, j, n);
        return n;
    }

    // ---- what the calls are made of

    private static boolean isBelow(int v, int bound) {
        return v >= 0 && v < bound;
    }

    private static boolean hasBit(int bits, int bit) {
        return ((bits >> bit) & 1) == 1;
    }

    private static boolean isPlateAside(int ink, int dx, int dy) {
        return isBelow(ink, INKS) && dx >= -1 && dx <= 1 && dy >= -1 && dy <= 1;
    }

    private static boolean isTaking(int sheet, int lane) {
        return isBelow(sheet, SHEETS) && isBelow(lane, LANES);
    }

    private static boolean isOrder(int figures) {
        if (figures < 0 || figures > LAST_ORDER) {
            return false;
        }
        int met = 0;
        int rest = figures;
        for (int k = 0; k < INKS; k++) {
            met = met | (1 << (rest % 10));
            rest = rest / 10;
        }
        return met == ALL_INKS;
    }

    private static int figuresOf(int[] order) {
        int figures = 0;
        for (int k = 0; k < INKS; k++) {
            figures = figures * 10 + order[k];
        }
        return figures;
    }

    /** What ink of a kind, by one number f of its tone, makes of the number v beneath it. */
    private static int printedOver(int kind, int v, int f) {
        int clear = v * f / BRIGHTEST;
        switch (kind) {
            case OPAQUE: return f;
            case MILKY: return (clear + f) / 2;
            case METAL: return Math.min(f + 1, BRIGHTEST);
            default: return clear;
        }
    }

    private static int lookBy(int[] kinds, int[] tones, int[] order, int set) {
        int look = 0;
        for (int shift = 8; shift >= 0; shift -= 4) {
            int v = BRIGHTEST;
            for (int k = 0; k < INKS; k++) {
                int ink = order[k];
                if (isBelow(ink, INKS) && hasBit(set, ink)) {
                    v = printedOver(kinds[ink], v, (tones[ink] >> shift) & 15);
                }
            }
            look = look * 16 + v;
        }
        return look;
    }

    private static int darkOf(int look) {
        return DARKEST - (look >> 8) - ((look >> 4) & 15) - (look & 15);
    }

    private int lookNow(int set) {
        return lookBy(now.kinds, now.tones, now.order, set);
    }

    private int alikeTo(int set) {
        looks.find(now);
        return looks.alikeTo(set);
    }

    private int unlikeLooks() {
        looks.find(now);
        return looks.unlikeOf(now.setsDrawn());
    }

    private int fewestInks() {
        looks.find(now);
        return looks.fewestFor(now.setsDrawn());
    }

    private int printedBy(int ink, int dx, int dy, int x, int y) {
        int plate = 1 << ink;
        return (now.at(x, y) & ~plate) | (now.at(x - dx, y - dy) & plate);
    }

    private int gapsBy(int ink, int dx, int dy) {
        int gaps = 0;
        for (int y = 0; y < now.high; y++) {
            for (int x = 0; x < now.wide; x++) {
                if (now.at(x, y) != 0 && printedBy(ink, dx, dy, x, y) == 0) {
                    gaps++;
                }
            }
        }
        return gaps;
    }

    private int worstAside() {
        int worst = NONE;
        int most = 0;
        for (int ink = 0; ink < INKS; ink++) {
            for (int dy = -1; dy <= 1; dy++) {
                for (int dx = -1; dx <= 1; dx++) {
                    int gaps = gapsBy(ink, dx, dy);
                    if (gaps > most) {
                        most = gaps;
                        worst = 100 * ink + 10 * (dy + 1) + dx + 1;
                    }
                }
            }
        }
        return worst;
    }

    private int worstGaps() {
        int worst = worstAside();
        if (worst < 0) {
            return 0;
        }
        return gapsBy(worst / 100, worst % 10 - 1, worst / 10 % 10 - 1);
    }

    private int ordersAlike() {
        int setsDrawn = now.setsDrawn();
        looks.find(now);
        int many = 0;
        for (int number = 0; number < ORDERS; number++) {
            if (isAlikeByOrder(number, setsDrawn)) {
                many++;
            }
        }
        return many;
    }

    private int firstOrderAlike() {
        int setsDrawn = now.setsDrawn();
        looks.find(now);
        for (int number = 0; number < ORDERS; number++) {
            if (isAlikeByOrder(number, setsDrawn)) {
                return figuresOf(triedOrder);
            }
        }
        return figuresOf(now.order);
    }

    private boolean isAlikeByOrder(int number, int setsDrawn) {
        writeOrder(number, triedOrder);
        for (int set = 0; set < SETS; set++) {
            if (hasBit(setsDrawn, set) && lookBy(now.kinds, now.tones, triedOrder, set) != looks.of[set]) {
                return false;
            }
        }
        return true;
    }

    /** The orders are numbered 0 .. 119 as their figures grow. */
    private static void writeOrder(int number, int[] order) {
        int free = ALL_INKS;
        int rest = number;
        for (int k = 0; k < INKS; k++) {
            int block = Math.max(1, ORDERS_BEHIND[k]);
            int ink = nthInk(free, rest / block);
            order[k] = ink;
            free = free & ~(1 << ink);
            rest = rest % block;
        }
    }

    private static int nthInk(int set, int nth) {
        int passed = 0;
        for (int ink = 0; ink < INKS; ink++) {
            if (hasBit(set, ink)) {
                if (passed == nth) {
                    return ink;
                }
                passed++;
            }
        }
        return 0;
    }

    private int orderByDark() {
        int figures = 0;
        for (int rank = 0; rank < INKS; rank++) {
            for (int ink = 0; ink < INKS; ink++) {
                if (lighterInks(ink) == rank) {
                    figures = figures * 10 + ink;
                }
            }
        }
        return figures;
    }

    /** How many inks stand ahead of this one in the order by DARK. */
    private int lighterInks(int ink) {
        int dark = darkOf(lookNow(1 << ink));
        int lighter = 0;
        for (int other = 0; other < INKS; other++) {
            int otherDark = darkOf(lookNow(1 << other));
            if (otherDark < dark || (otherDark == dark && other < ink)) {
                lighter++;
            }
        }
        return lighter;
    }

    private void growAside() {
        System.arraycopy(now.sets, 0, grown, 0, MOST_PLACES);
        looks.find(now);
        for (int y = 0; y < now.high; y++) {
            for (int x = 0; x < now.wide; x++) {
                if (x + 1 < now.wide) {
                    growBetween(State.indexOf(x, y), State.indexOf(x + 1, y));
                }
                if (y + 1 < now.high) {
                    growBetween(State.indexOf(x, y), State.indexOf(x, y + 1));
                }
            }
        }
    }

    private void growBetween(int first, int second) {
        if (!isBelow(first, MOST_PLACES) || !isBelow(second, MOST_PLACES)) {
            return;
        }
        int a = now.sets[first];
        int b = now.sets[second];
        if (a == 0 || b == 0 || (a & b) != 0) {
            return;
        }
        if (looks.darkOfSet(a) <= looks.darkOfSet(b)) {
            grown[second] = grown[second] | a;
        } else {
            grown[first] = grown[first] | b;
        }
    }

    private void driftOnce() {
        now.drawn = (int) ((now.drawn * 1103515245L + 12345L) & 0x7fffffffL);
        int x = now.drawn / 65536;
        if (now.wide > 0 && now.high > 0) {
            now.write(x % now.wide, x / 8 % now.high, x / 64 % SETS);
        }
    }

    /** Out of 10 to the power of the inks drawn, how many ways leave no gap. */
    private int gaplessOdds(int c) {
        int inks = now.inksDrawn();
        int setsDrawn = now.setsDrawn();
        int odds = 0;
        for (int failed = 0; failed < SETS; failed++) {
            if ((failed & ~inks) == 0 && !leavesGap(failed, setsDrawn)) {
                int fails = Integer.bitCount(failed);
                odds += power(c, fails) * power(10 - c, Integer.bitCount(inks) - fails);
            }
        }
        return odds;
    }

    private static boolean leavesGap(int failed, int setsDrawn) {
        for (int set = 1; set < SETS; set++) {
            if (hasBit(setsDrawn, set) && (set & ~failed) == 0) {
                return true;
            }
        }
        return false;
    }

    private static int power(int base, int times) {
        int product = 1;
        for (int k = 0; k < times && k < INKS; k++) {
            product = product * base;
        }
        return product;
    }

    private static int commonDivisor(int a, int b) {
        int greater = a;
        int lesser = b;
        for (int turn = 0; turn < 64 && lesser != 0; turn++) {
            int left = greater % lesser;
            greater = lesser;
            lesser = left;
        }
        return greater;
    }

    private static boolean tellsSets(Row row, int i, int n) {
        for (int pair = 0; pair < n; pair++) {
            long set = row.at(i + 2 * pair);
            if (set < 0 || set >= SETS) {
                return false;
            }
        }
        return true;
    }

    private int kindsSeen(int ink, Row row, int i, int n) {
        System.arraycopy(now.kinds, 0, triedKinds, 0, INKS);
        int kinds = 0;
        for (int kind = 0; kind < KINDS; kind++) {
            if (isBelow(ink, INKS)) {
                triedKinds[ink] = kind;
            }
            if (looksAsTold(row, i, n)) {
                kinds = kinds | (1 << kind);
            }
        }
        return kinds;
    }

    private boolean looksAsTold(Row row, int i, int n) {
        for (int pair = 0; pair < n; pair++) {
            int set = (int) row.at(i + 2 * pair);
            if (lookBy(triedKinds, now.tones, now.order, set) != row.at(i + 2 * pair + 1)) {
                return false;
            }
        }
        return true;
    }

    /** All that one step back brings again. Places stand 8 to a line, however wide the drawing is. */
    private static final class State {
        final int[] kinds = new int[INKS];
        final int[] tones = new int[INKS];
        final int[] order = new int[INKS];
        final int[] sets = new int[MOST_PLACES];
        int wide = 4;
        int high = 3;
        int drawn = 1;

        State() {
            for (int ink = 0; ink < INKS; ink++) {
                tones[ink] = FIRST_TONES[ink];
                order[ink] = ink;
            }
        }

        void become(State other) {
            System.arraycopy(other.kinds, 0, kinds, 0, INKS);
            System.arraycopy(other.tones, 0, tones, 0, INKS);
            System.arraycopy(other.order, 0, order, 0, INKS);
            System.arraycopy(other.sets, 0, sets, 0, MOST_PLACES);
            wide = other.wide;
            high = other.high;
            drawn = other.drawn;
        }

        void become(int[] newSets, int newWide, int newHigh) {
            System.arraycopy(newSets, 0, sets, 0, MOST_PLACES);
            wide = newWide;
            high = newHigh;
        }

        static int indexOf(int x, int y) {
            return y * WIDEST + x;
        }

        boolean isInside(int x, int y) {
            return x >= 0 && x < wide && y >= 0 && y < high;
        }

        /** What falls out of the drawing is lost: there is no ink outside. */
        int at(int x, int y) {
            return isInside(x, y) ? sets[indexOf(x, y)] : 0;
        }

        void write(int x, int y, int set) {
            if (isInside(x, y)) {
                sets[indexOf(x, y)] = set;
            }
        }

        void clearOutside() {
            for (int y = 0; y < HIGHEST; y++) {
                for (int x = 0; x < WIDEST; x++) {
                    if (!isInside(x, y)) {
                        sets[indexOf(x, y)] = 0;
                    }
                }
            }
        }

        int placeInOrder(int ink) {
            for (int k = 0; k < INKS; k++) {
                if (order[k] == ink) {
                    return k;
                }
            }
            return BAD;
        }

        int placesWithInk(int ink) {
            int many = 0;
            for (int k = 0; k < MOST_PLACES; k++) {
                if (hasBit(sets[k], ink)) {
                    many++;
                }
            }
            return many;
        }

        int placesOfSet(int set) {
            int many = 0;
            for (int y = 0; y < high; y++) {
                for (int x = 0; x < wide; x++) {
                    if (at(x, y) == set) {
                        many++;
                    }
                }
            }
            return many;
        }

        int inksDrawn() {
            int inks = 0;
            for (int k = 0; k < MOST_PLACES; k++) {
                inks = inks | sets[k];
            }
            return inks;
        }

        /** Bit s tells whether set s is drawn in some place. */
        int setsDrawn() {
            int drawnSets = 0;
            for (int y = 0; y < high; y++) {
                for (int x = 0; x < wide; x++) {
                    drawnSets = drawnSets | (1 << at(x, y));
                }
            }
            return drawnSets;
        }
    }

    /** The states ahead of the latest steps, the oldest first. */
    private static final class Past {
        final State[] states = new State[MOST_UNDONE];
        int known = 0;

        Past() {
            for (int k = 0; k < MOST_UNDONE; k++) {
                states[k] = new State();
            }
        }

        void keep(State state) {
            if (known >= MOST_UNDONE) {
                loseOldest();
            }
            if (isBelow(known, MOST_UNDONE)) {
                states[known].become(state);
                known++;
            }
        }

        private void loseOldest() {
            State oldest = states[0];
            for (int k = 1; k < MOST_UNDONE; k++) {
                states[k - 1] = states[k];
            }
            states[MOST_UNDONE - 1] = oldest;
            known = MOST_UNDONE - 1;
        }

        boolean bring(State state) {
            if (known < 1 || known > MOST_UNDONE) {
                return false;
            }
            known--;
            state.become(states[known]);
            return true;
        }

        void become(Past other) {
            known = other.known;
            for (int k = 0; k < known && k < MOST_UNDONE; k++) {
                states[k].become(other.states[k]);
            }
        }
    }

    /** The looks of all 32 sets. */
    private static final class Looks {
        final int[] of = new int[SETS];

        void find(State state) {
            for (int set = 0; set < SETS; set++) {
                of[set] = lookBy(state.kinds, state.tones, state.order, set);
            }
        }

        int darkOfSet(int set) {
            return isBelow(set, SETS) ? darkOf(of[set]) : 0;
        }

        int alikeTo(int set) {
            int alike = 0;
            for (int other = 0; other < SETS; other++) {
                if (isBelow(set, SETS) && of[other] == of[set]) {
                    alike++;
                }
            }
            return alike;
        }

        int unlikeOf(int setsDrawn) {
            int unlike = 0;
            for (int set = 0; set < SETS; set++) {
                if (hasBit(setsDrawn, set) && !isDrawnBelow(set, setsDrawn)) {
                    unlike++;
                }
            }
            return unlike;
        }

        private boolean isDrawnBelow(int set, int setsDrawn) {
            for (int other = 0; other < set && other < SETS; other++) {
                if (hasBit(setsDrawn, other) && of[other] == of[set]) {
                    return true;
                }
            }
            return false;
        }

        int fewestFor(int setsDrawn) {
            int fewest = ALL_INKS;
            for (int inks = 0; inks < SETS; inks++) {
                if (Integer.bitCount(inks) < Integer.bitCount(fewest) && canPrintAll(inks, setsDrawn)) {
                    fewest = inks;
                }
            }
            return fewest;
        }

        private boolean canPrintAll(int inks, int setsDrawn) {
            for (int set = 0; set < SETS; set++) {
                if (hasBit(setsDrawn, set) && !canPrint(inks, of[set])) {
                    return false;
                }
            }
            return true;
        }

        private boolean canPrint(int inks, int look) {
            for (int part = 0; part < SETS; part++) {
                if ((part & ~inks) == 0 && of[part] == look) {
                    return true;
                }
            }
            return false;
        }
    }

    /** The areas of the drawing that was looked at last. */
    private static final class Areas {
        final int[] of = new int[MOST_PLACES];
        final int[] firsts = new int[MOST_PLACES];
        final int[] places = new int[MOST_PLACES];
        final int[] queue = new int[MOST_PLACES];
        final boolean[] met = new boolean[MOST_PLACES];
        int queued = 0;
        int many = 0;

        void find(State state) {
            many = 0;
            for (int k = 0; k < MOST_PLACES; k++) {
                of[k] = -1;
            }
            for (int y = 0; y < state.high; y++) {
                for (int x = 0; x < state.wide; x++) {
                    if (at(x, y) < 0) {
                        spreadFrom(x, y, state);
                    }
                }
            }
        }

        private void spreadFrom(int x, int y, State state) {
            int area = many;
            if (!isBelow(area, MOST_PLACES)) {
                return;
            }
            int set = state.at(x, y);
            many++;
            firsts[area] = State.indexOf(x, y);
            queued = 0;
            join(x, y, area);
            for (int k = 0; k < queued && k < MOST_PLACES; k++) {
                for (int side = 0; side < 4; side++) {
                    int besideX = queue[k] % WIDEST + SIDE_X[side];
                    int besideY = queue[k] / WIDEST + SIDE_Y[side];
                    if (state.isInside(besideX, besideY) && state.at(besideX, besideY) == set) {
                        join(besideX, besideY, area);
                    }
                }
            }
            places[area] = queued;
        }

        private void join(int x, int y, int area) {
            int index = State.indexOf(x, y);
            if (isBelow(index, MOST_PLACES) && of[index] < 0 && isBelow(queued, MOST_PLACES)) {
                of[index] = area;
                queue[queued] = index;
                queued++;
            }
        }

        int at(int x, int y) {
            int index = State.indexOf(x, y);
            return isBelow(index, MOST_PLACES) ? of[index] : -1;
        }

        int firstX(int area) {
            return isBelow(area, many) ? firsts[area] % WIDEST : -1;
        }

        int firstY(int area) {
            return isBelow(area, many) ? firsts[area] / WIDEST : -1;
        }

        int placesOf(int area) {
            return isBelow(area, many) ? places[area] : 0;
        }

        int greaterThan(int area) {
            int greater = 0;
            for (int other = 0; other < many; other++) {
                int more = placesOf(other) - placesOf(area);
                if (more > 0 || (more == 0 && other < area)) {
                    greater++;
                }
            }
            return greater;
        }

        int neighboursOf(int area, State state) {
            for (int k = 0; k < MOST_PLACES; k++) {
                met[k] = false;
            }
            int neighbours = 0;
            for (int y = 0; y < state.high; y++) {
                for (int x = 0; x < state.wide; x++) {
                    if (at(x, y) == area) {
                        neighbours += meetBeside(x, y, area, state);
                    }
                }
            }
            return neighbours;
        }

        /** How many areas beside this place have not been met yet. */
        private int meetBeside(int x, int y, int area, State state) {
            int fresh = 0;
            for (int side = 0; side < 4; side++) {
                int besideX = x + SIDE_X[side];
                int besideY = y + SIDE_Y[side];
                int other = state.isInside(besideX, besideY) ? at(besideX, besideY) : area;
                if (other != area && isBelow(other, MOST_PLACES) && !met[other]) {
                    met[other] = true;
                    fresh++;
                }
            }
            return fresh;
        }
    }

    /** Letters that have been typed, and the drawing that was read from them. */
    private static final class Tape {
        private static final int END = 0;
        final int[] letters = new int[MOST_LETTERS];
        final int[] sets = new int[MOST_PLACES];
        int many = 0;
        int next = 0;
        int wide = 0;
        int lines = 0;
        int inLine = 0;

        boolean add(int letter) {
            if (!isBelow(many, MOST_LETTERS)) {
                return false;
            }
            letters[many] = letter;
            many++;
            return true;
        }

        /** Whether the letters are a drawing; if not, next is the place of the fault. */
        boolean read() {
            begin();
            for (int turn = 0; turn <= MOST_LETTERS; turn++) {
                int letter = letterBehindBlanks();
                if (letter == END) {
                    return endLine();
                }
                boolean stands = letter == '/' ? endLine() && lines < HIGHEST : readRun(letter);
                if (!stands) {
                    return false;
                }
                if (letter == '/') {
                    next++;
                }
            }
            return false;
        }

        private void begin() {
            next = 0;
            wide = 0;
            lines = 0;
            inLine = 0;
            for (int k = 0; k < MOST_PLACES; k++) {
                sets[k] = 0;
            }
        }

        private int letterBehindBlanks() {
            while (next < many && next < MOST_LETTERS && letters[next] == ' ') {
                next++;
            }
            return next < many && isBelow(next, MOST_LETTERS) ? letters[next] : END;
        }

        private boolean endLine() {
            if (inLine == 0 || (lines > 0 && inLine != wide)) {
                return false;
            }
            wide = inLine;
            inLine = 0;
            lines++;
            return true;
        }

        /** A run that is too long is a fault of its first letter, so that is looked at first. */
        private boolean readRun(int letter) {
            boolean isFigure = letter >= '1' && letter <= '8';
            int often = isFigure ? letter - '0' : 1;
            if (inLine + often > (lines == 0 ? WIDEST : wide)) {
                return false;
            }
            if (isFigure) {
                next++;
            }
            int set = readSet(letterBehindBlanks());
            if (set < 0) {
                return false;
            }
            for (int k = 0; k < often; k++) {
                writeNext(set);
            }
            return true;
        }

        private void writeNext(int set) {
            int index = State.indexOf(inLine, lines);
            if (isBelow(index, MOST_PLACES)) {
                sets[index] = set;
            }
            inLine++;
        }

        /** The set that begins with this letter, or BAD, with next at the fault. */
        private int readSet(int letter) {
            if (letter == '(') {
                next++;
                return readManyInks();
            }
            if (letter != '.' && !isInkLetter(letter)) {
                return BAD;
            }
            next++;
            return letter == '.' ? 0 : 1 << (letter - 'a');
        }

        private int readManyInks() {
            int set = 0;
            for (int turn = 0; turn <= MOST_LETTERS; turn++) {
                int letter = letterBehindBlanks();
                if (letter == ')' && set != 0) {
                    next++;
                    return set;
                }
                if (!isInkLetter(letter)) {
                    return BAD;
                }
                set = set | (1 << (letter - 'a'));
                next++;
            }
            return BAD;
        }

        private static boolean isInkLetter(int letter) {
            return letter >= 'a' && letter <= 'e';
        }
    }

    /** A sheet: nothing, or a row of items of one lane. */
    private static final class Row {
        final long[] items = new long[MOST_ITEMS];
        boolean there = false;
        int lane = 0;
        int many = 0;

        void begin(int newLane, int n) {
            there = true;
            lane = newLane;
            many = n;
            for (int k = 0; k < MOST_ITEMS; k++) {
                items[k] = 0;
            }
        }

        boolean hasItems(int i, int n) {
            return i >= 0 && i <= many && n >= 0 && n <= many - i;
        }

        /** FINE, if n items from i on can be taken as those of a lane; else why they can't. */
        int whyNot(int takenLane, int i, int n) {
            if (!there) {
                return NULL;
            }
            if (lane != takenLane) {
                return CAST;
            }
            return hasItems(i, n) ? FINE : INDEX;
        }

        long at(int i) {
            return isBelow(i, MOST_ITEMS) ? items[i] : 0;
        }

        void write(int i, long v) {
            if (isBelow(i, MOST_ITEMS)) {
                items[i] = lowestBits(v);
            }
        }

        private long lowestBits(long v) {
            switch (lane) {
                case 0: return (byte) v;
                case 1: return (short) v;
                case 2: return (int) v;
                default: return v;
            }
        }
    }
}
