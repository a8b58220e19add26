import java.util.function.IntUnaryOperator;

/** Each sentence of promises 1 to 28 that names a boundary case, with a test of its own. */
public final class PromiseBoundaries {
    private static final int MOST = Checks.MOST;
    private static final int LEAST = Checks.LEAST;
    private static final int BAD = Checks.BAD;
    private static final int NOT = Checks.NOT;
    private static final int FULL = Checks.FULL;
    private static final int NONE = Checks.NONE;
    private static final int NULL = Checks.NULL;
    private static final int CAST = Checks.CAST;
    private static final int INDEX = Checks.INDEX;
    private static final int SIZE = Checks.SIZE;
    private static final int ALL_KINDS = Checks.ALL_KINDS;

    public static void main(String[] args) {
        run();
        Checks.end();
    }

    static void run() {
        looking();
        tape();
        counting();
        telling();
        doing();
        lookedFor();
        images();
        seenAndFilm();
        rows();
    }

    private static void due(String call, long got, long want) {
        Checks.due(call, got, want);
    }

    /** From least on to most the call answers something, and BAD outside of these. */
    private static void dueBounds(String what, int least, int most, IntUnaryOperator call) {
        for (int v = least; v <= most; v++) {
            due(what + " " + v + " is bad", call.applyAsInt(v) == BAD ? 1 : 0, 0);
        }
        for (int bad : new int[] {least - 1, most + 1, least - 2, most + 2, MOST, LEAST}) {
            due(what + " " + bad, call.applyAsInt(bad), BAD);
        }
    }

    // ---- promises 1 to 5

    private static void looking() {
        Checks.sentence("`PartedInks()`: As told.", PromiseBoundaries::newObject);
        Checks.sentence("Of an INK: 0 KIND, 1 TONE, 2 its place in THE ORDER, 3 DARK alone, 4 PLACES in which it is drawn. BAD.", PromiseBoundaries::ink);
        Checks.sentence("Of a set: 0 LOOK, 1 DARK, 2 ALIKE, 3 PLACES in which it is drawn. BAD.", PromiseBoundaries::set);
        Checks.sentence("Of a PLACE: 0 its set, 1 LOOK, 2 AREA. BAD.", PromiseBoundaries::place);
        Checks.sentence("Of an AREA: 0 its set, 1 PLACES, 2 neighbours", PromiseBoundaries::area);
        Checks.sentence("(how many unlike AREAS have a PLACE beside one of it)", PromiseBoundaries::neighbours);
        Checks.sentence("3 x, 4 y of its first PLACE", PromiseBoundaries::firstPlace);
        Checks.sentence("5 GREATER ones (how many have more PLACES, or as many and a lesser number). BAD.", PromiseBoundaries::greater);
    }

    private static void newObject() {
        PartedInks x = new PartedInks();
        Checks.dueText("all", Checks.state(x), "0:4080 0:3855 0:255 0:2184 0:1092 1234 0,0,0,0/0,0,0,0/0,0,0,0 0");
        due("the draw", Checks.draw(x), 1);
        due("the tape", x.type('a'), 1);
        due("nothing to be undone", x.undo(), NONE);
        due("no image", x.restore(), NONE);
        for (int sheet = 0; sheet < 4; sheet++) {
            due("sheet " + sheet, x.drop(sheet), NULL);
        }
        PartedInks used = Checks.worked();
        PartedInks fresh = new PartedInks();
        due("another object has its own tape", fresh.type('a'), 1);
        due("another object has its own image", fresh.restore(), NONE);
        due("another object has its own sheets", fresh.drop(0), NULL);
        Checks.dueText("another object has its own drawing", Checks.state(fresh), Checks.state(new PartedInks()));
        due("and the used one keeps its own", used.type('a'), 3);
    }

    private static void ink() {
        PartedInks x = Checks.drawn("a(ab)./2bc");
        for (int what = 0; what <= 4; what++) {
            int w = what;
            dueBounds("ink, what " + what, 0, 4, v -> x.ink(v, w));
        }
        dueBounds("what", 0, 4, v -> x.ink(4, v));
        x.tell(1, 2, 0x345);
        x.order(20413);
        int[] want = {2, 0x345, 3, 45 - 3 - 4 - 5, 3};
        for (int what = 0; what < 5; what++) {
            due("ink(1, " + what + ")", x.ink(1, what), want[what]);
        }
        due("the first of the order", x.ink(2, 2), 0);
        due("the last of the order", x.ink(3, 2), 4);
        due("drawn nowhere", x.ink(4, 4), 0);
        due("drawn everywhere", Checks.drawn("8e/8e/8e/8e/8e/8(ae)").ink(4, 4), 48);
        PartedInks gone = Checks.drawn("2a/2a");
        gone.size(0, 1);
        due("places that are gone", gone.ink(0, 4), 2);
    }

    private static void set() {
        PartedInks x = Checks.drawn("a2(ab)b");
        for (int what = 0; what <= 3; what++) {
            int w = what;
            dueBounds("set, what " + what, 0, 31, v -> x.set(v, w));
        }
        dueBounds("what", 0, 3, v -> x.set(31, v));
        int[] want = {0xf00, 30, 1, 2};
        for (int what = 0; what < 4; what++) {
            due("set(3, " + what + ")", x.set(3, what), want[what]);
        }
        due("just this set", x.set(1, 3), 1);
        due("not drawn", x.set(31, 3), 0);
        due("none, nowhere", x.set(0, 3), 0);
        due("none, everywhere", new PartedInks().set(0, 3), 12);
        due("none, in all the places there are", Checks.drawn("8./8./8./8./8./8.").set(0, 3), 48);
        due("none, in no more places than there are", Checks.drawn("a.").set(0, 3), 1);
    }

    private static void place() {
        PartedInks x = Checks.drawn("ab./.ba");
        for (int what = 0; what <= 2; what++) {
            int w = what;
            dueBounds("x, what " + what, 0, 2, v -> x.place(v, 1, w));
            dueBounds("y, what " + what, 0, 1, v -> x.place(2, v, w));
        }
        dueBounds("what", 0, 2, v -> x.place(2, 1, v));
        int[][] want = {{1, 0xff0, 0}, {2, 0xf0f, 1}, {0, 0xfff, 2}, {0, 0xfff, 3}, {2, 0xf0f, 1}, {1, 0xff0, 4}};
        for (int k = 0; k < 6; k++) {
            for (int what = 0; what < 3; what++) {
                due("place " + k + ", what " + what, x.place(k % 3, k / 3, what), want[k][what]);
            }
        }
        PartedInks most = Checks.drawn("8a/8a/8a/8a/8a/7ab");
        dueBounds("x", 0, 7, v -> most.place(v, 5, 0));
        dueBounds("y", 0, 5, v -> most.place(7, v, 0));
        due("the last place", most.place(7, 5, 0), 2);
        most.size(0, 1);
        most.size(1, 1);
        dueBounds("x", 0, 0, v -> most.place(v, 0, 0));
        dueBounds("y", 0, 0, v -> most.place(0, v, 0));
    }

    private static void area() {
        PartedInks x = Checks.drawn("3a/.ba/a2b");
        int[][] want = {{1, 4, 2, 0, 0, 0}, {0, 1, 3, 0, 1, 2}, {2, 3, 3, 1, 1, 1}, {1, 1, 2, 0, 2, 3}};
        for (int what = 0; what <= 5; what++) {
            int w = what;
            dueBounds("area, what " + what, 0, 3, v -> x.area(v, w));
            for (int area = 0; area < 4; area++) {
                due("area(" + area + ", " + what + ")", x.area(area, what), want[area][what]);
            }
        }
        dueBounds("what", 0, 5, v -> x.area(3, v));
        PartedInks one = new PartedInks();
        dueBounds("area of one", 0, 0, v -> one.area(v, 0));
        PartedInks most = Checks.drawn("abababab/babababa/abababab/babababa/abababab/babababa");
        dueBounds("area of 48", 0, 47, v -> most.area(v, 1));
    }

    private static void neighbours() {
        due("alone", Checks.drawn("8a/8a").area(0, 2), 0);
        due("met twice, counted once", Checks.drawn("3a/a.a/3a").area(0, 2), 1);
        due("met twice, counted once", Checks.drawn("3a/a.a/3a").area(1, 2), 1);
        due("corners alone", Checks.drawn("a./.a").area(0, 2), 2);
        due("like sets, unlike areas", Checks.drawn("aba").area(1, 2), 2);
        due("none's areas, too", Checks.drawn(".a.").area(1, 2), 2);
        due("the end of a line and the next one's begin", Checks.drawn("7ab/c7d").area(1, 2), 2);
        due("the begin of a line and the end of the one ahead", Checks.drawn("7ab/c7d").area(2, 2), 2);
        PartedInks lines = Checks.drawn("abcdeabc/8.");
        due("eight above it", lines.area(8, 2), 8);
        PartedInks most = Checks.drawn("abababab/8./babababa/abababab/8./babababa");
        due("sixteen above and below it", most.area(8, 2), 16);
        due("sixteen above and below it", most.area(25, 2), 16);
    }

    private static void firstPlace() {
        PartedInks x = Checks.drawn("7.a/8a/a7b");
        due("x", x.area(1, 3), 7);
        due("y", x.area(1, 4), 0);
        due("x", x.area(2, 3), 1);
        due("y", x.area(2, 4), 2);
        due("x of the first", x.area(0, 3), 0);
        PartedInks last = Checks.drawn("8a/8a/8a/8a/8a/7ab");
        due("the greatest x", last.area(1, 3), 7);
        due("the greatest y", last.area(1, 4), 5);
    }

    private static void greater() {
        PartedInks x = Checks.drawn("ab2cd3e");
        int[] want = {2, 3, 1, 4, 0};
        for (int area = 0; area < 5; area++) {
            due("greater than area " + area, x.area(area, 5), want[area]);
        }
        PartedInks like = Checks.drawn("abababab");
        for (int area = 0; area < 8; area++) {
            due("as many places, a lesser number", like.area(area, 5), area);
        }
        due("alone", new PartedInks().area(0, 5), 0);
    }

    // ---- promises 6, 7

    private static void tape() {
        Checks.sentence("One letter more behind THE TAPE: how many it has.", PromiseBoundaries::typed);
        Checks.sentence("BAD: not 32 .. 126", () -> {
            PartedInks x = new PartedInks();
            dueBounds("letter", 32, 126, x::type);
            due("no bad one came to the tape", x.type('a'), 96);
        });
        Checks.sentence("FULL: 100.", PromiseBoundaries::full);
        Checks.sentence("THE TAPE, which is empty then (by a FAULT, too), is a DRAWING: how many PLACES.", PromiseBoundaries::tapeEmptied);
        Checks.sentence("A FAULT (all else stays).", PromiseBoundaries::faultLeavesAll);
    }

    private static void typed() {
        PartedInks x = new PartedInks();
        due("the first", x.type('3'), 1);
        due("the second", x.type(' '), 2);
        due("the third", x.type('e'), 3);
        due("behind each other", x.draw(), 3);
        Checks.dueSets(x, "16,16,16");
    }

    private static void full() {
        PartedInks x = new PartedInks();
        for (int k = 1; k <= 99; k++) {
            due("letter", x.type(' '), k);
        }
        due("the hundredth", x.type('b'), 100);
        due("the one behind it", x.type('c'), FULL);
        due("still", x.type(' '), FULL);
        due("what was refused is not there", x.draw(), 1);
        Checks.dueSets(x, "2");
        due("room again", x.type('c'), 1);
    }

    private static void tapeEmptied() {
        PartedInks x = new PartedInks();
        due("places", Checks.text(x, "2a/2b"), 4);
        due("empty", x.type('c'), 1);
        due("what is typed since", x.draw(), 1);
        Checks.dueSets(x, "4");
        due("empty: a fault", x.draw(), -20);
        due("a fault", Checks.text(x, "abcx"), -23);
        due("empty by a fault, too", x.type('d'), 1);
        due("what is typed since", x.draw(), 1);
        Checks.dueSets(x, "8");
        due("a fault by its end", Checks.text(x, "2"), -21);
        due("empty by a fault, too", x.draw(), -20);
        due("the most places", Checks.text(x, "8a/8a/8a/8a/8a/8a"), 48);
        for (int k = 0; k < 100; k++) {
            x.type('x');
        }
        due("a full tape", x.draw(), -20);
        due("has room again", x.type('a'), 1);
        due("a drawing with blanks behind it", Checks.text(x, "   "), 1);
        due("blanks of an earlier tape are gone, too", Checks.text(x, "2"), -21);
        due("letters of an earlier tape are gone, too", Checks.text(x, "(abcde)"), 1);
        due("letters of an earlier tape are gone, too", Checks.text(x, "("), -21);
    }

    private static void faultLeavesAll() {
        for (String letters : new String[] {"x", "abc/ab", "8a/8b/8c/8d/8e/8./a", "2a2b/2a2b/2", "(abc", "", "  "}) {
            PartedInks x = Checks.worked();
            x.draw();
            PartedInks y = Checks.worked();
            y.draw();
            x.put(0, 0, 7);
            y.put(0, 0, 7);
            due("draw() of '" + letters + "' is a fault", Checks.text(x, letters) <= -20 ? 1 : 0, 1);
            Checks.dueText("all behind a fault", Checks.whole(x), Checks.whole(y));
        }
        PartedInks steps = Checks.worked();
        steps.type('x');
        due("a fault", steps.draw(), -22);
        due("steps that were done stay", steps.count(12), 4);
        due("undo()", steps.undo(), 3);
    }

    // ---- promise 8

    private static void counting() {
        Checks.sentence("0 W, 1 H, 2 THE ORDER, 3 AREAS, 4 LOOKS, 5 FEW", PromiseBoundaries::countFirst);
        Checks.sentence("6 WORST (NONE)", PromiseBoundaries::countWorst);
        Checks.sentence("7 GAPS by that (0)", PromiseBoundaries::countGaps);
        Checks.sentence("8 ORDERS, 9 the first of these, 10 the order by DARK", PromiseBoundaries::countOrders);
        Checks.sentence("11 INKS that are drawn (a set)", PromiseBoundaries::countInks);
        Checks.sentence("12 what may be UNDONE. BAD.", PromiseBoundaries::countSteps);
    }

    private static void countFirst() {
        PartedInks x = Checks.drawn("abc/(abc)(abcd).");
        x.order(20413);
        int[] want = {3, 2, 20413, 6, 5, 7};
        for (int what = 0; what < 6; what++) {
            due("count(" + what + ")", x.count(what), want[what]);
        }
        due("the most areas", Checks.drawn("abababab/babababa/abababab/babababa/abababab/babababa").count(3), 48);
        due("the fewest areas", Checks.drawn("8a/8a").count(3), 1);
    }

    private static void countWorst() {
        due("none", new PartedInks().count(6), NONE);
        due("none", Checks.drawn("8(ab)").count(6), NONE);
        due("the least answer", Checks.drawn("a").count(6), 0);
        due("the greatest answer", Checks.drawn("2e(ae)/e2(ae)/3(ae)").count(6), 422);
    }

    private static void countGaps() {
        due("none", new PartedInks().count(7), 0);
        due("none", Checks.drawn("8(ab)").count(7), 0);
        due("one", Checks.drawn("a").count(7), 1);
        due("three", Checks.drawn("2e(ae)/e2(ae)/3(ae)").count(7), 3);
        due("one by dx 0", Checks.drawn("(ae).(ae)/(ae)e(ae)/3(ae)").count(7), 1);
        due("48 of one ink", Checks.drawn("8a/8a/8a/8a/8a/8a").count(7), 13);
    }

    private static void countOrders() {
        PartedInks x = Checks.drawn("(ab)");
        x.tell(1, 1, 0x123);
        x.order(43210);
        due("orders", x.count(8), 60);
        due("the first of these", x.count(9), 10234);
        due("the order by dark", x.count(10), 2341);
        due("the order stays", x.count(2), 43210);
        due("all orders", new PartedInks().count(8), 120);
    }

    private static void countInks() {
        due("none", new PartedInks().count(11), 0);
        due("all", Checks.drawn("abcde").count(11), 31);
        due("all in one place", Checks.drawn("(abcde)").count(11), 31);
        due("the last", Checks.drawn("8./8./8./8./8./7.e").count(11), 16);
        PartedInks x = Checks.drawn("ae");
        x.size(0, 1);
        due("of places that are there", x.count(11), 1);
        x.tell(0, 0, 0xfff);
        due("by sets, not by looks", x.count(11), 1);
    }

    private static void countSteps() {
        PartedInks x = new PartedInks();
        due("none", x.count(12), 0);
        for (int set = 1; set <= 8; set++) {
            x.put(0, 0, set);
            due("steps", x.count(12), Math.min(6, set));
        }
        x.undo();
        due("one less", x.count(12), 5);
        dueBounds("what", 0, 12, x::count);
    }

    // ---- promises 9 to 14

    private static void telling() {
        Checks.sentence("An INK is of a KIND, has a TONE: 1. BAD; NOT: it is so.", PromiseBoundaries::tell);
        Checks.sentence("THE ORDER: what it was.", PromiseBoundaries::orderTold);
        Checks.sentence("BAD: five figures, not each of 0 .. 4 once; NOT: it is so.", PromiseBoundaries::orderRefused);
        Checks.sentence("A PLACE gets a set: what it had. BAD; NOT: it has it.", PromiseBoundaries::put);
        Checks.sentence("FILLED: how many PLACES. BAD; NOT: it has that set.", PromiseBoundaries::fill);
        Checks.sentence("GROWN: how many PLACES have another set then. NOT: none would.", PromiseBoundaries::grow);
        Checks.sentence("W (what 0), H (1) becomes v: what it was. BAD; NOT: it is so.", PromiseBoundaries::size);
    }

    private static void tell() {
        PartedInks x = new PartedInks();
        dueBounds("ink", 0, 4, v -> x.tell(v, 1, 7));
        dueBounds("kind", 0, 3, v -> x.tell(4, v, 9));
        for (int tone : new int[] {0, 4095}) {
            due("tone " + tone, x.tell(4, 3, tone), 1);
        }
        for (int bad : new int[] {-1, 4096, MOST, LEAST}) {
            due("tone " + bad, x.tell(4, 3, bad), BAD);
        }
        due("it is so", x.tell(4, 3, 4095), NOT);
        due("the kind is not so", x.tell(4, 2, 4095), 1);
        due("the tone is not so", x.tell(4, 2, 4094), 1);
        due("the kind", x.ink(4, 0), 2);
        due("the tone", x.ink(4, 1), 4094);
        due("as at first", new PartedInks().tell(2, 0, 0x0ff), NOT);
        due("another ink is so", new PartedInks().tell(2, 0, 0x888), 1);
    }

    private static void orderTold() {
        PartedInks x = new PartedInks();
        due("the first", x.order(43210), 1234);
        due("the last", x.order(1234), 43210);
        due("again", x.order(32104), 1234);
        due("it is", x.count(2), 32104);
    }

    /** All numbers of five figures, and some around them: 120 are orders. */
    private static void orderRefused() {
        int many = 0;
        for (int from = 0; from < 44000; from += 250) {
            PartedInks x = new PartedInks();
            for (int figures = from; figures < from + 250; figures++) {
                int got = x.order(figures);
                due("order(" + figures + ") is refused", got < 0 ? 1 : 0, figures != 1234 && isOrder(figures) ? 0 : 1);
                many += got < 0 ? 0 : 1;
            }
        }
        due("orders, but for the one that it is", many, 119);
        PartedInks x = new PartedInks();
        due("it is so", x.order(1234), NOT);
        x.order(20413);
        due("it is so", x.order(20413), NOT);
        due("it is so no longer", x.order(1234), 20413);
        for (int bad : new int[] {-1, -1234, 101234, 201234, 143210, 1043210, 51234, 91234, MOST, LEAST}) {
            due("order(" + bad + ")", x.order(bad), BAD);
        }
    }

    private static boolean isOrder(int figures) {
        String five = String.format("%05d", figures);
        return five.chars().filter(f -> f >= '0' && f <= '4').distinct().count() == 5;
    }

    private static void put() {
        PartedInks x = new PartedInks();
        dueBounds("x", 0, 3, v -> x.put(v, 2, 1));
        dueBounds("y", 0, 2, v -> x.put(3, v, 2));
        dueBounds("set", 0, 31, v -> x.put(0, 0, v));
        due("what it had", x.put(0, 0, 5), 31);
        due("it has it", x.put(0, 0, 5), NOT);
        due("what it had", x.put(0, 0, 0), 5);
        due("it has none", x.put(0, 0, 0), NOT);
        due("the place beside it stays", x.place(1, 0, 0), 0);
        x.tell(1, 0, 0xff0);
        x.put(0, 0, 1);
        due("it looks so, but has it not", x.put(0, 0, 2), 1);
    }

    private static void fill() {
        PartedInks x = Checks.drawn("2ab/a2b/2ba");
        dueBounds("area", 0, 2, v -> v < 3 ? Checks.drawn("2ab/a2b/2ba").fill(v, 31) : x.fill(v, 31));
        due("it has that set", x.fill(0, 1), NOT);
        due("it has that set", x.fill(1, 2), NOT);
        due("it has that set", x.fill(2, 1), NOT);
        due("the first area has that set, this one has not", Checks.drawn("2ab/a2b/2ba").fill(1, 1), 5);
        due("another one has it", x.fill(0, 2), 3);
        due("areas that are one now", x.count(3), 2);
        due("places of both", x.fill(0, 0), 8);
        due("it has none", x.fill(0, 0), NOT);
        for (int bad : new int[] {-1, 32, MOST, LEAST}) {
            due("set " + bad, x.fill(0, bad), BAD);
        }
        due("no area", x.fill(2, 1), BAD);
        due("one place", x.fill(1, 31), 1);
        due("the most places", Checks.drawn("8a/8a/8a/8a/8a/8a").fill(0, 0), 48);
    }

    private static void grow() {
        due("nothing drawn", new PartedInks().grow(), NOT);
        due("one place", Checks.drawn("a").grow(), NOT);
        due("one set", Checks.drawn("8a/8a").grow(), NOT);
        PartedInks x = Checks.drawn("ab");
        due("one place", x.grow(), 1);
        due("none would", x.grow(), NOT);
        due("one step", x.count(12), 1);
        due("two come to one place: one place", Checks.drawn("aeb").grow(), 1);
        PartedInks most = Checks.drawn("adadadad/dadadada/adadadad/dadadada/adadadad/dadadada");
        due("each second of 48", most.grow(), 24);
        PartedInks line = Checks.drawn("abcabcab");
        due("all but the first", line.grow(), 7);
    }

    private static void size() {
        PartedInks x = new PartedInks();
        dueBounds("what", 0, 1, v -> x.size(v, 2));
        due("W was", x.size(0, 8), 2);
        due("H was", x.size(1, 6), 2);
        due("it is so", x.size(0, 8), NOT);
        due("it is so", x.size(1, 6), NOT);
        due("W was", x.size(0, 6), 8);
        due("W is so, H too", x.size(1, 6), NOT);
        due("as at first", new PartedInks().size(0, 4), NOT);
        due("as at first", new PartedInks().size(1, 3), NOT);
        dueBounds("W", 1, 8, v -> x.size(0, v));
        dueBounds("H", 1, 6, v -> x.size(1, v));
        due("no what", x.size(2, 1), BAD);
    }

    // ---- promises 15 to 17

    private static void doing() {
        Checks.sentence("A DRIFT of n turns (1 .. 40; each may be UNDONE, one that changes nothing, too): AREAS then. BAD.", PromiseBoundaries::drift);
        Checks.sentence("UNDONE: how many more may be. NONE: none is known.", PromiseBoundaries::undo);
        Checks.sentence("THE DRAW becomes v: what it was. BAD: below 0.", PromiseBoundaries::seed);
    }

    private static void drift() {
        PartedInks x = new PartedInks();
        dueBounds("n", 1, 40, x::drift);
        PartedInks fresh = new PartedInks();
        due("areas behind one turn", fresh.drift(1), 2);
        due("areas behind another", fresh.drift(1), fresh.count(3));
        due("each may be undone", fresh.count(12), 2);
        PartedInks four = new PartedInks();
        four.drift(4);
        due("each may be undone", four.count(12), 4);
        for (int left = 3; left >= 0; left--) {
            due("turn by turn", four.undo(), left);
        }
        Checks.dueText("all", Checks.state(four), Checks.state(new PartedInks()));
        PartedInks same = new PartedInks();
        same.drift(1);
        String drawing = Checks.sets(same);
        same.seed(1);
        due("the same turn again", same.drift(1), 2);
        Checks.dueSets(same, drawing);
        due("one that changes nothing may be undone, too", same.count(12), 2);
        due("undo()", same.undo(), 1);
        due("the draw is as ahead of it", Checks.draw(same), 1);
        PartedInks together = new PartedInks();
        together.drift(40);
        PartedInks apart = new PartedInks();
        for (int turn = 0; turn < 40; turn++) {
            apart.drift(1);
        }
        Checks.dueText("40 turns", Checks.state(together), Checks.state(apart));
    }

    private static void undo() {
        PartedInks x = new PartedInks();
        due("none is known", x.undo(), NONE);
        x.put(0, 0, 1);
        x.put(0, 0, 2);
        due("one more", x.undo(), 1);
        due("none more", x.undo(), 0);
        due("none is known", x.undo(), NONE);
        x.put(0, 0, 3);
        due("a new one", x.undo(), 0);
        PartedInks full = new PartedInks();
        full.drift(40);
        for (int left = 5; left >= 0; left--) {
            due("left", full.undo(), left);
        }
        due("none is known", full.undo(), NONE);
    }

    private static void seed() {
        PartedInks x = new PartedInks();
        due("what it was", x.seed(0), 1);
        due("what it was", x.seed(MOST), 0);
        due("the same", x.seed(MOST), MOST);
        for (int bad : new int[] {-1, -2, LEAST, LEAST + 1}) {
            due("seed(" + bad + ")", x.seed(bad), BAD);
        }
        due("it stays", x.seed(5), MOST);
        due("no step", x.count(12), 0);
    }

    // ---- promises 18 to 20

    private static void lookedFor() {
        Checks.sentence("GAPS, were a plate ASIDE. BAD.", PromiseBoundaries::gaps);
        Checks.sentence("What would be printed in a PLACE (a set), were a plate ASIDE. BAD.", PromiseBoundaries::aside);
        Checks.sentence("FAIL: above (what 0), below (1). BAD.", PromiseBoundaries::fail);
    }

    private static void gaps() {
        PartedInks x = Checks.drawn("aab/.(ab)b");
        dueBounds("ink", 0, 4, v -> x.gaps(v, 1, 1));
        dueBounds("dx", -1, 1, v -> x.gaps(0, v, 1));
        dueBounds("dy", -1, 1, v -> x.gaps(0, 1, v));
        int[] want = {1, 1, 2, 1, 0, 1, 2, 2, 2};
        for (int k = 0; k < 9; k++) {
            due("gaps by " + k, x.gaps(0, k % 3 - 1, k / 3 - 1), want[k]);
        }
        due("no gap", x.gaps(4, 1, 1), 0);
        due("all are gaps", Checks.drawn("8a").gaps(0, 0, -1), 8);
        due("nothing is changed", x.count(12), 0);
    }

    private static void aside() {
        PartedInks x = Checks.drawn("aab/.(ab)b");
        dueBounds("ink", 0, 4, v -> x.aside(v, 1, 1, 0, 0));
        dueBounds("dx", -1, 1, v -> x.aside(0, v, 0, 0, 0));
        dueBounds("dy", -1, 1, v -> x.aside(0, 0, v, 0, 0));
        dueBounds("x", 0, 2, v -> x.aside(0, 0, 0, v, 1));
        dueBounds("y", 0, 1, v -> x.aside(0, 0, 0, 2, v));
        int[] right = {0, 1, 3, 0, 2, 3};
        for (int k = 0; k < 6; k++) {
            due("to the right, " + k, x.aside(0, 1, 0, k % 3, k / 3), right[k]);
            due("where it lies, " + k, x.aside(0, 0, 0, k % 3, k / 3), x.place(k % 3, k / 3, 0));
        }
        due("where no set is drawn", x.aside(0, 0, 1, 0, 1), 1);
    }

    private static void fail() {
        PartedInks x = Checks.drawn("(ab)(bc)");
        dueBounds("c", 0, 10, v -> x.fail(v, 0));
        dueBounds("c", 0, 10, v -> x.fail(v, 1));
        dueBounds("what", 0, 1, v -> x.fail(0, v));
        due("above", x.fail(5, 0), 5);
        due("below", x.fail(5, 1), 8);
        due("above, at 0", x.fail(0, 0), 1);
        due("below, at 0", x.fail(0, 1), 1);
        due("above, at 10", x.fail(10, 0), 0);
        due("below, at 10", x.fail(10, 1), 1);
    }

    // ---- promises 21, 22

    private static void images() {
        Checks.sentence("All but SHEETS, THE TAPE is kept as an IMAGE (what may be UNDONE, too): 1.", PromiseBoundaries::image);
        Checks.sentence("All is as it was then: 1.", PromiseBoundaries::restore);
        Checks.sentence("NONE: there is none.", PromiseBoundaries::noImage);
    }

    private static void image() {
        PartedInks x = Checks.worked();
        due("image()", x.image(), 1);
        due("it changes nothing", x.count(12), 4);
        due("sheets stay when it is restored", x.sheet(2, 3, 9), 9);
        x.drop(0);
        x.type('c');
        due("restore()", x.restore(), 1);
        due("a sheet that came since", x.drop(2), 9);
        due("a sheet that went since", x.drop(0), NULL);
        due("a letter that came since", x.type('d'), 4);
        PartedInks six = new PartedInks();
        for (int set = 1; set <= 7; set++) {
            six.put(0, 0, set);
        }
        six.image();
        for (int set = 11; set <= 20; set++) {
            six.put(0, 0, set);
        }
        six.restore();
        for (int left = 5; left >= 0; left--) {
            due("what may be undone, too", six.undo(), left);
            due("what may be undone, too", six.place(0, 0, 0), left + 1);
        }
        due("no more than then", six.undo(), NONE);
        six.image();
        six.put(0, 0, 31);
        six.restore();
        due("nothing to be undone was kept, too", six.undo(), NONE);
        PartedInks last = new PartedInks();
        last.image();
        last.put(0, 0, 3);
        due("a newer one in place of it", last.image(), 1);
        last.put(0, 0, 4);
        last.restore();
        due("the newer one", last.place(0, 0, 0), 3);
    }

    private static void restore() {
        PartedInks x = Checks.worked();
        x.image();
        String then = Checks.state(x);
        for (int time = 0; time < 2; time++) {
            x.tell(0, 3, 1);
            x.order(43210);
            x.size(0, 8);
            x.size(1, 1);
            x.drift(3);
            x.seed(123456);
            due("restore()", x.restore(), 1);
            Checks.dueText("all", Checks.state(x), then);
            due("the draw", Checks.draw(x), 78);
        }
        due("a drawing since", Checks.text(x, "/cd"), 4);
        due("restore()", x.restore(), 1);
        Checks.dueText("all", Checks.state(x), then);
        due("steps behind a drawing", x.undo(), 3);
        due("undo() is no step of the image", x.restore(), 1);
        Checks.dueText("all", Checks.state(x), then);
        PartedInks first = new PartedInks();
        first.image();
        first.drift(20);
        due("restore()", first.restore(), 1);
        Checks.dueText("all as at first", Checks.state(first), Checks.state(new PartedInks()));
        due("the draw", Checks.draw(first), 1);
    }

    private static void noImage() {
        PartedInks x = new PartedInks();
        due("restore()", x.restore(), NONE);
        x.put(0, 0, 5);
        due("restore()", x.restore(), NONE);
        due("it changes nothing", x.place(0, 0, 0), 5);
        x.image();
        due("there is one", x.restore(), 1);
        due("there is one still", x.restore(), 1);
    }

    // ---- promises 23, 24

    private static void seenAndFilm() {
        Checks.sentence("SEEN of an INK by 2 n items of a SHEET taken as a row of a LANE, from item i on.", PromiseBoundaries::seenItems);
        Checks.sentence("BAD; NULL; CAST; INDEX; NOT: an item that tells a set is none.", PromiseBoundaries::seenRefused);
        Checks.sentence("LOOKS of line y, W items, their lowest bits, come to a SHEET likewise: W.", PromiseBoundaries::filmItems);
        Checks.sentence("come to a SHEET likewise: W. BAD; NULL; CAST; INDEX.", PromiseBoundaries::filmRefused);
    }

    private static void seenItems() {
        PartedInks x = new PartedInks();
        for (int lane = 1; lane < 4; lane++) {
            x.sheet(0, lane, 24);
            for (int k = 0; k < 12; k++) {
                x.item(0, lane, 2 * k, 2);
                x.item(0, lane, 2 * k + 1, k == 0 ? 0xf0e : 0xf0f);
            }
            due("the first pair", x.seen(0, 0, lane, 0, 1), 0);
            due("six from the first on", x.seen(0, 0, lane, 0, 6), 0);
            due("from the second pair on", x.seen(0, 0, lane, 2, 6), ALL_KINDS);
            due("to the end", x.seen(0, 0, lane, 12, 6), ALL_KINDS);
            due("the last pair", x.seen(0, 0, lane, 22, 1), ALL_KINDS);
            x.item(0, lane, 13, 0);
            due("the seventh pair is not among six", x.seen(0, 0, lane, 2, 5), ALL_KINDS);
            due("the seventh pair is among these", x.seen(0, 0, lane, 2, 6), 0);
        }
        x.sheet(1, 0, 2);
        x.tell(4, 1, 0x01f);
        x.item(1, 0, 0, 16);
        x.item(1, 0, 1, 0x01f);
        due("bytes", x.seen(4, 1, 0, 0, 1), 7);
    }

    private static void seenRefused() {
        PartedInks x = new PartedInks();
        Checks.row(x, 0, 2, 31, 0, 32, 0, -1, 0, 0, 32, 0, -1);
        dueBounds("ink", 0, 4, v -> x.seen(v, 0, 2, 0, 1));
        dueBounds("lane", 0, 3, v -> x.seen(0, 0, v, 0, 1));
        dueBounds("sheet", 0, 3, v -> x.seen(0, v, 2, 0, 1));
        dueBounds("n", 1, 6, v -> x.seen(0, 0, 2, 0, v));
        due("nothing", x.seen(0, 1, 2, 0, 1), NULL);
        due("another lane", x.seen(0, 0, 3, 0, 1), CAST);
        for (int bad : new int[] {-1, -2, 9, 10, 11, 24, MOST, MOST - 1, LEAST}) {
            due("from " + bad, x.seen(0, 0, 2, bad, 1), INDEX);
        }
        due("too many", x.seen(0, 0, 2, 0, 6), INDEX);
        due("too many", x.seen(0, 0, 2, 1, 5), INDEX);
        due("a set, the greatest", x.seen(3, 0, 2, 0, 1) >= 0 ? 1 : 0, 1);
        due("above all sets", x.seen(3, 0, 2, 2, 1), NOT);
        due("below all sets", x.seen(3, 0, 2, 4, 1), NOT);
        due("the second of two is none", x.seen(3, 0, 2, 0, 2), NOT);
        due("a look that is no set is fine", x.seen(3, 0, 2, 6, 2), 0);
        Checks.row(x, 1, 3, 1L << 32, 0, 0, (1L << 32) + 0xfff, Long.MIN_VALUE, 0);
        due("a long that is none", x.seen(3, 1, 3, 0, 1), NOT);
        due("a long that is no look", x.seen(3, 1, 3, 2, 1), 0);
        due("the least long", x.seen(3, 1, 3, 4, 1), NOT);
    }

    private static void filmItems() {
        PartedInks x = Checks.drawn(".ea/bcd");
        Checks.row(x, 0, 1, 7, 7, 7, 7, 7, 7);
        due("film", x.film(1, 0, 1, 1), 3);
        int[] want = {7, 0xf0f, 0x0ff, 0x888, 7, 7};
        for (int k = 0; k < 6; k++) {
            Checks.dueItem(x, 0, 1, k, want[k]);
        }
        PartedInks bytes = Checks.drawn("dea.");
        bytes.tell(3, 1, 0xf12);
        bytes.tell(4, 1, 0x37f);
        bytes.sheet(0, 0, 4);
        due("film as bytes", bytes.film(0, 0, 0, 0), 4);
        Checks.dueItem(bytes, 0, 0, 0, 0x12);
        Checks.dueItem(bytes, 0, 0, 1, 0x7f);
        Checks.dueNoSet(bytes, 0, 0, 2, 1);
        Checks.dueNoSet(bytes, 0, 0, 3, 1);
        PartedInks wide = Checks.drawn("8a/8b/8c/8d/8e/7.e");
        for (int lane = 0; lane < 4; lane++) {
            wide.sheet(1, lane, 24);
            due("W items to the end", wide.film(5, 1, lane, 16), 8);
            due("W items from the first on", wide.film(0, 1, lane, 0), 8);
        }
        wide.size(0, 1);
        wide.sheet(1, 2, 1);
        due("one item", wide.film(3, 1, 2, 0), 1);
        Checks.dueItem(wide, 1, 2, 0, 0x888);
    }

    private static void filmRefused() {
        PartedInks x = Checks.drawn("abc/cde");
        x.sheet(0, 2, 5);
        dueBounds("y", 0, 1, v -> x.film(v, 0, 2, 0));
        dueBounds("sheet", 0, 3, v -> x.film(0, v, 2, 0));
        dueBounds("lane", 0, 3, v -> x.film(0, 0, v, 0));
        due("nothing", x.film(0, 1, 2, 0), NULL);
        due("another lane", x.film(0, 0, 1, 0), CAST);
        due("the last that fits", x.film(0, 0, 2, 2), 3);
        for (int bad : new int[] {-1, 3, 4, 5, 6, 24, MOST, LEAST}) {
            due("from " + bad, x.film(0, 0, 2, bad), INDEX);
        }
        x.sheet(1, 2, 2);
        due("fewer items than W", x.film(0, 1, 2, 0), INDEX);
        x.sheet(1, 2, 0);
        due("no item", x.film(0, 1, 2, 0), INDEX);
        x.size(0, 2);
        due("W is less now", x.film(0, 0, 2, 3), 2);
    }

    // ---- promises 25 to 28

    private static void rows() {
        Checks.sentence("A SHEET holds a new row of a LANE: n.", PromiseBoundaries::newRow);
        Checks.sentence("BAD: also n above 24; SIZE: n below 0.", PromiseBoundaries::sheetRefused);
        Checks.sentence("A SHEET holds nothing: how many items it had. BAD; NULL.", PromiseBoundaries::drop);
        Checks.sentence("Item i of a SHEET, taken as a row of a LANE, becomes v, its lowest bits: 1.", PromiseBoundaries::itemBits);
        Checks.sentence("becomes v, its lowest bits: 1. BAD; NULL; CAST; INDEX.", PromiseBoundaries::itemRefused);
        Checks.sentence("n items of a SHEET from i on come to another one (or the same) from j on", PromiseBoundaries::copyItems);
        Checks.sentence("as if all were taken ahead: n.", PromiseBoundaries::copyAhead);
        Checks.sentence("BAD; NULL (either); CAST: of unlike LANES", PromiseBoundaries::copyRefused);
        Checks.sentence("INDEX (n below 0, too).", PromiseBoundaries::copyIndex);
    }

    private static void newRow() {
        PartedInks x = new PartedInks();
        for (int lane = 0; lane < 4; lane++) {
            Checks.row(x, 0, lane, 3, 3, 3);
            due("a new row in place of it", x.sheet(0, lane, 2), 2);
            Checks.dueItem(x, 0, lane, 0, 0);
            Checks.dueItem(x, 0, lane, 1, 0);
            due("as many as told", x.item(0, lane, 2, 0), INDEX);
        }
        due("of another lane", x.sheet(0, 1, 2), 2);
        due("of another lane", x.item(0, 3, 0, 0), CAST);
        Checks.row(x, 0, 1, 5, 6, 7);
        x.sheet(0, 1, 1);
        x.sheet(0, 1, 3);
        Checks.dueItem(x, 0, 1, 2, 0);
        due("behind a drop", x.drop(0), 3);
        due("behind a drop", x.sheet(0, 1, 3), 3);
        Checks.dueItem(x, 0, 1, 1, 0);
    }

    private static void sheetRefused() {
        PartedInks x = new PartedInks();
        dueBounds("sheet", 0, 3, v -> x.sheet(v, 0, 1));
        dueBounds("lane", 0, 3, v -> x.sheet(0, v, 1));
        due("24", x.sheet(0, 2, 24), 24);
        due("25", x.sheet(0, 3, 25), BAD);
        due("26", x.sheet(0, 3, 26), BAD);
        due("far more", x.sheet(0, 3, MOST), BAD);
        due("none", x.sheet(1, 2, 0), 0);
        due("-1", x.sheet(0, 3, -1), SIZE);
        due("-25", x.sheet(0, 3, -25), SIZE);
        due("far less", x.sheet(0, 3, LEAST), SIZE);
        due("BAD ahead of it", x.sheet(4, 3, -1), BAD);
        due("BAD ahead of it", x.sheet(-1, 3, -1), BAD);
        due("BAD ahead of it", x.sheet(0, 4, LEAST), BAD);
        due("BAD ahead of it", x.sheet(0, -1, LEAST), BAD);
        due("it stays", x.item(0, 2, 23, 0), 1);
        due("it stays", x.drop(0), 24);
        due("refused, where nothing is", x.sheet(0, 0, -1), SIZE);
        due("nothing stays nothing", x.drop(0), NULL);
    }

    private static void drop() {
        PartedInks x = new PartedInks();
        due("nothing at first", x.drop(0), NULL);
        for (int many : new int[] {0, 1, 23, 24}) {
            x.sheet(3, 1, many);
            due("how many it had", x.drop(3), many);
            due("it holds nothing", x.drop(3), NULL);
            due("it holds nothing", x.item(3, 1, 0, 0), NULL);
            due("it holds nothing", x.copy(3, 0, 3, 0, 0), NULL);
        }
        x.sheet(1, 0, 5);
        dueBounds("sheet", 0, 3, x::drop);
        x.sheet(1, 0, 5);
        x.sheet(2, 0, 6);
        due("this one", x.drop(1), 5);
        due("not the other", x.drop(2), 6);
    }

    private static void itemBits() {
        PartedInks x = new PartedInks();
        long[] ranges = {1L << 8, 1L << 16, 1L << 32};
        for (int lane = 0; lane < 3; lane++) {
            Checks.row(x, 0, lane, ranges[lane], ranges[lane] + 9, -ranges[lane] + 7, ranges[lane] / 2, ranges[lane] - 1, Long.MIN_VALUE + 3);
            Checks.dueItem(x, 0, lane, 0, 0);
            Checks.dueItem(x, 0, lane, 1, 9);
            Checks.dueItem(x, 0, lane, 2, 7);
            Checks.dueNoSet(x, 0, lane, 3, 1);
            Checks.dueNoSet(x, 0, lane, 4, 1);
            Checks.dueItem(x, 0, lane, 5, 3);
        }
        Checks.row(x, 0, 3, Long.MAX_VALUE, Long.MIN_VALUE, 1L << 32, 4095);
        Checks.dueNoSet(x, 0, 3, 0, 1);
        Checks.dueNoSet(x, 0, 3, 1, 1);
        Checks.dueNoSet(x, 0, 3, 2, 1);
        Checks.dueItem(x, 0, 3, 3, 4095);
        due("again", x.item(0, 3, 3, 4095), 1);
    }

    private static void itemRefused() {
        PartedInks x = new PartedInks();
        x.sheet(0, 1, 5);
        dueBounds("sheet", 0, 3, v -> x.item(v, 1, 0, 1));
        dueBounds("lane", 0, 3, v -> x.item(0, v, 0, 1));
        due("nothing", x.item(1, 1, 0, 1), NULL);
        due("another lane", x.item(0, 2, 0, 1), CAST);
        due("the first", x.item(0, 1, 0, 1), 1);
        due("the last", x.item(0, 1, 4, 1), 1);
        for (int bad : new int[] {-1, 5, 6, 23, 24, MOST, LEAST}) {
            due("item " + bad, x.item(0, 1, bad, 1), INDEX);
        }
        x.sheet(0, 1, 0);
        due("no item", x.item(0, 1, 0, 1), INDEX);
    }

    private static void dueRow(PartedInks x, int sheet, int... want) {
        for (int k = 0; k < want.length; k++) {
            Checks.dueItem(x, sheet, 2, k, want[k]);
        }
    }

    private static void copyItems() {
        PartedInks x = new PartedInks();
        Checks.row(x, 0, 2, 1, 2, 3, 4, 5);
        Checks.row(x, 1, 2, 11, 12, 13, 14);
        due("to another one", x.copy(0, 1, 1, 2, 2), 2);
        dueRow(x, 1, 11, 12, 2, 3);
        dueRow(x, 0, 1, 2, 3, 4, 5);
        due("none", x.copy(0, 5, 1, 4, 0), 0);
        due("one, the last", x.copy(0, 4, 1, 3, 1), 1);
        dueRow(x, 1, 11, 12, 2, 5);
        due("all", x.copy(1, 0, 0, 1, 4), 4);
        dueRow(x, 0, 1, 11, 12, 2, 5);
        due("the same, at the same", x.copy(0, 0, 0, 0, 5), 5);
        dueRow(x, 0, 1, 11, 12, 2, 5);
        x.sheet(2, 3, 24);
        due("the most", x.copy(2, 0, 2, 0, 24), 24);
    }

    private static void copyAhead() {
        PartedInks x = new PartedInks();
        Checks.row(x, 0, 2, 1, 2, 3, 4, 5, 6);
        due("to later items", x.copy(0, 0, 0, 1, 5), 5);
        dueRow(x, 0, 1, 1, 2, 3, 4, 5);
        Checks.row(x, 0, 2, 1, 2, 3, 4, 5, 6);
        due("to earlier items", x.copy(0, 2, 0, 0, 4), 4);
        dueRow(x, 0, 3, 4, 5, 6, 5, 6);
        Checks.row(x, 0, 2, 1, 2, 3, 4, 5, 6);
        due("far over each other", x.copy(0, 0, 0, 2, 4), 4);
        dueRow(x, 0, 1, 2, 1, 2, 3, 4);
    }

    private static void copyRefused() {
        PartedInks x = new PartedInks();
        x.sheet(0, 0, 3);
        x.sheet(1, 0, 3);
        x.sheet(2, 1, 3);
        dueBounds("from", 0, 3, v -> x.copy(v, 0, 0, 0, 1));
        dueBounds("to", 0, 3, v -> x.copy(0, 0, v, 0, 1));
        due("from nothing", x.copy(3, 0, 0, 0, 1), NULL);
        due("to nothing", x.copy(0, 0, 3, 0, 1), NULL);
        due("both", x.copy(3, 0, 3, 0, 1), NULL);
        for (int from = 0; from < 4; from++) {
            for (int to = 0; to < 4; to++) {
                x.sheet(0, from, 3);
                x.sheet(1, to, 3);
                due("lane " + from + " to " + to, x.copy(0, 0, 1, 0, 1), from == to ? 1 : CAST);
                due("lane " + from + " to " + to + ", no item", x.copy(0, 0, 1, 0, 0), from == to ? 0 : CAST);
            }
        }
    }

    private static void copyIndex() {
        PartedInks x = new PartedInks();
        x.sheet(0, 0, 5);
        x.sheet(1, 0, 3);
        for (int bad : new int[] {-1, -5, LEAST, 4, 25, MOST}) {
            due("n " + bad, x.copy(0, 0, 1, 0, bad), INDEX);
            due("n " + bad + ", the other way", x.copy(1, 0, 0, 0, bad), INDEX);
        }
        due("n -1 from the end", x.copy(0, 5, 1, 3, -1), INDEX);
        for (int bad : new int[] {-1, 4, 5, 6, MOST, LEAST}) {
            due("from " + bad, x.copy(0, bad, 1, 0, 2), INDEX);
            due("to " + bad, x.copy(1, 0, 0, bad, 2), INDEX);
        }
        due("the last that fit", x.copy(0, 3, 1, 1, 2), 2);
        due("one more of the one", x.copy(0, 3, 1, 0, 3), INDEX);
        due("one more of the other", x.copy(0, 2, 1, 1, 3), INDEX);
        due("i and n wrap around", x.copy(0, 1, 1, 1, MOST), INDEX);
        due("i and n wrap around", x.copy(0, MOST, 1, MOST, MOST), INDEX);
        due("i and n wrap around", x.copy(0, 2, 1, 2, LEAST), INDEX);
    }
}
