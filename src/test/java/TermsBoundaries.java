import java.util.function.IntBinaryOperator;
import java.util.function.ToIntFunction;

/** Each sentence of the document's terms that names a boundary case, with a test of its own. */
public final class TermsBoundaries {
    private static final int MOST = Checks.MOST;
    private static final int LEAST = Checks.LEAST;
    private static final int BAD = Checks.BAD;
    private static final int NOT = Checks.NOT;
    private static final int FULL = Checks.FULL;
    private static final int NONE = Checks.NONE;
    private static final int NULL = Checks.NULL;
    private static final int CAST = Checks.CAST;
    private static final int INDEX = Checks.INDEX;
    private static final int ALL_KINDS = Checks.ALL_KINDS;
    private static final String INKS = "abcde";

    public static void main(String[] args) {
        run();
        Checks.end();
    }

    static void run() {
        answersBelowNought();
        looks();
        drawings();
        aside();
        grown();
        ordersAndOdds();
        steps();
        texts();
        faults();
        sheets();
    }

    private static void due(String call, long got, long want) {
        Checks.due(call, got, want);
    }

    // ---- what it is; which answer comes before which

    private static void answersBelowNought() {
        Checks.sentence("An object is used for at most 512 calls after it has been made", TermsBoundaries::manyCalls);
        Checks.sentence("BAD -1 (a number is not as told, there is no such thing), NOT -2 (as told), FULL -3, NONE -4 (as told), CAST -12 (of SHEETS another LANE)",
            TermsBoundaries::toldAnswers);
        Checks.sentence("what the machine finds: NULL -11, INDEX -13, SIZE -14", TermsBoundaries::machineAnswers);
        Checks.sentence("of several BAD ahead of all others", TermsBoundaries::badFirst);
        Checks.sentence("then the first that a call names", TermsBoundaries::thenAsNamed);
        Checks.sentence("NULL, CAST, INDEX, SIZE in this order", TermsBoundaries::machineOrder);
        Checks.sentence("INDEX also where no item is taken, if i, j is below 0, or above how many there are", TermsBoundaries::noItemTaken);
        Checks.sentence("What is refused changes nothing, but as told.", TermsBoundaries::refused);
        Checks.sentence("Sets (of INKS 0 .. 4) are bits.", TermsBoundaries::setsAreBits);
    }

    private static void manyCalls() {
        PartedInks seeds = new PartedInks();
        for (int call = 1; call <= 512; call++) {
            due("call " + call, seeds.seed(call), Math.max(1, call - 1));
        }
        PartedInks drifts = new PartedInks();
        long draw = 1;
        for (int call = 1; call < 512; call++) {
            drifts.drift(40);
            for (int turn = 0; turn < 40; turn++) {
                draw = (draw * Checks.MULTIPLIER + 12345) & MOST;
            }
        }
        due("the 512th call, behind all the turns there can be", drifts.seed(0), draw);
        lastOf512(INDEX + FULL, x -> x.type('a') + INDEX);
        lastOf512(-20, PartedInks::draw);
        lastOf512(1, PartedInks::image);
        lastOf512(NONE, PartedInks::undo);
        lastOf512(NONE, PartedInks::restore);
        lastOf512(NOT, PartedInks::grow);
        lastOf512(24, x -> x.sheet(3, 3, 24));
        lastOf512(12, x -> x.fill(0, 31 - x.area(0, 0)), 2);
        lastOf512(1, x -> x.tell(0, 1 - x.ink(0, 0), 0), 2);
        lastOf512(1234 + 43210, x -> x.order(44444 - x.count(2)) + x.count(2), 3);
        lastOf512(9, x -> x.size(0, 9 - x.count(0)) + x.count(0), 3);
        lastOf512(31, x -> x.put(3, 2, 31 - x.place(3, 2, 0)) + x.place(3, 2, 0), 3);
    }

    private static void lastOf512(int want, ToIntFunction<PartedInks> call) {
        lastOf512(want, call, 1);
    }

    private static void lastOf512(int want, ToIntFunction<PartedInks> calls, int callsEach) {
        PartedInks x = new PartedInks();
        int got = 0;
        for (int made = callsEach; made <= 512; made += callsEach) {
            got = calls.applyAsInt(x);
        }
        due("the last of 512 calls", got, want);
    }

    /** The numbers as the document has them, not by the constants' names. */
    private static void toldAnswers() {
        PartedInks x = withSheets();
        due("no such ink", x.ink(5, 0), -1);
        due("no such tone", x.tell(0, 0, 4096), -1);
        due("it is so", x.order(1234), -2);
        due("none is known", x.undo(), -4);
        due("there is none", x.restore(), -4);
        due("no gap by any", x.count(6), -4);
        due("another lane", x.item(0, 1, 0, 0), -12);
        due("unlike lanes", x.copy(0, 0, 1, 0, 1), -12);
        for (int k = 0; k < 100; k++) {
            x.type('a');
        }
        due("full", x.type('a'), -3);
        int[] named = {PartedInks.BAD, PartedInks.NOT, PartedInks.FULL, PartedInks.NONE, PartedInks.CAST};
        int[] want = {-1, -2, -3, -4, -12};
        for (int k = 0; k < 5; k++) {
            due("constant " + k, named[k], want[k]);
        }
    }

    private static void machineAnswers() {
        PartedInks x = withSheets();
        due("nothing", x.drop(2), -11);
        due("behind the last item", x.item(0, 2, 4, 0), -13);
        due("a row of less than no items", x.sheet(2, 0, -1), -14);
        due("NULL", PartedInks.NULL, -11);
        due("INDEX", PartedInks.INDEX, -13);
        due("SIZE", PartedInks.SIZE, -14);
    }

    /** Sheet 0: ints, of which the first is no set; sheet 1: bytes; sheet 2: nothing; sheet 3: no items. */
    private static PartedInks withSheets() {
        PartedInks x = new PartedInks();
        Checks.row(x, 0, 2, 32, 0, 1, 0xff0);
        x.sheet(1, 0, 4);
        x.sheet(3, 2, 0);
        return x;
    }

    private static void badFirst() {
        PartedInks x = withSheets();
        int[][] alsoWrong = {{2, 0, 0}, {0, 3, 0}, {0, 2, -1}, {0, 2, 4}, {0, 2, 0}};
        for (int[] w : alsoWrong) {
            due("seen, ink", x.seen(5, w[0], w[1], w[2], 1), BAD);
            due("seen, ink", x.seen(-1, w[0], w[1], w[2], 1), BAD);
            due("seen, n", x.seen(0, w[0], w[1], w[2], 0), BAD);
            due("seen, n", x.seen(0, w[0], w[1], w[2], 7), BAD);
            due("film, y", x.film(3, w[0], w[1], w[2]), BAD);
            due("film, y", x.film(-1, w[0], w[1], w[2]), BAD);
            due("seen, lane", x.seen(0, w[0], 4, w[2], 1), BAD);
            due("film, lane", x.film(0, w[0], -1, w[2]), BAD);
            due("item, lane", x.item(w[0], 4, w[2], 0), BAD);
            due("copy, to", x.copy(w[0], w[2], 4, -1, -1), BAD);
            due("copy, from", x.copy(-1, -1, w[0], w[2], -1), BAD);
        }
        due("seen, sheet", x.seen(0, 4, 0, -1, 1), BAD);
        due("film, sheet", x.film(0, 4, 0, -1), BAD);
        due("item, sheet", x.item(4, 0, -1, 0), BAD);
        due("sheet, sheet ahead of SIZE", x.sheet(4, 0, -1), BAD);
        due("sheet, lane ahead of SIZE", x.sheet(0, 4, -1), BAD);
        due("put, where there is no place", x.put(4, 0, 0), BAD);
        due("fill, where there is no area", x.fill(1, 0), BAD);
        PartedInks full = new PartedInks();
        for (int k = 0; k < 100; k++) {
            full.type('a');
        }
        due("type, ahead of FULL", full.type(127), BAD);
        due("type, ahead of FULL", full.type(31), BAD);
    }

    private static void thenAsNamed() {
        PartedInks x = withSheets();
        due("seen, CAST ahead of NOT", x.seen(0, 0, 3, 0, 1), CAST);
        due("seen, INDEX ahead of NOT", x.seen(0, 0, 2, 0, 3), INDEX);
        due("seen, NOT alone", x.seen(0, 0, 2, 0, 2), NOT);
        due("seen, NULL ahead of CAST", x.seen(0, 2, 3, 0, 1), NULL);
        due("copy, NULL ahead of INDEX", x.copy(0, -1, 2, 0, 1), NULL);
        due("copy, CAST ahead of INDEX", x.copy(0, -1, 1, 0, 1), CAST);
    }

    private static void machineOrder() {
        PartedInks x = withSheets();
        for (int i : new int[] {-1, 5, MOST, LEAST}) {
            due("seen, NULL ahead of INDEX", x.seen(0, 2, 0, i, 1), NULL);
            due("seen, CAST ahead of INDEX", x.seen(0, 0, 1, i, 1), CAST);
            due("film, NULL ahead of INDEX", x.film(0, 2, 0, i), NULL);
            due("film, CAST ahead of INDEX", x.film(0, 0, 1, i), CAST);
            due("item, NULL ahead of INDEX", x.item(2, 0, i, 0), NULL);
            due("item, CAST ahead of INDEX", x.item(0, 1, i, 0), CAST);
            due("copy, NULL ahead of INDEX", x.copy(2, i, 0, 0, 1), NULL);
            due("copy, NULL ahead of INDEX", x.copy(0, i, 2, 0, 1), NULL);
            due("copy, CAST ahead of INDEX", x.copy(0, 0, 1, i, 1), CAST);
        }
        due("copy, CAST of rows without an item", x.copy(3, 0, 1, 0, 0), CAST);
    }

    private static void noItemTaken() {
        PartedInks x = withSheets();
        for (int at = 0; at <= 4; at++) {
            due("from " + at, x.copy(0, at, 3, 0, 0), 0);
            due("to " + at, x.copy(3, 0, 0, at, 0), 0);
        }
        due("from none to none", x.copy(3, 0, 3, 0, 0), 0);
        for (int at : new int[] {-1, 5, 24, 25, MOST, LEAST}) {
            due("from " + at, x.copy(0, at, 3, 0, 0), INDEX);
            due("to " + at, x.copy(3, 0, 0, at, 0), INDEX);
        }
        due("from behind none", x.copy(3, 1, 0, 0, 0), INDEX);
        due("to behind none", x.copy(0, 0, 3, 1, 0), INDEX);
    }

    private static void refusedWorked(int want, ToIntFunction<PartedInks> call) {
        PartedInks x = Checks.worked();
        due("refused", call.applyAsInt(x), want);
        Checks.dueText("all behind a refused call", Checks.whole(x), Checks.whole(Checks.worked()));
    }

    private static void refused() {
        for (int bad : new int[] {-1, 4096, MOST, LEAST}) {
            refusedWorked(BAD, x -> x.tell(bad, 0, 0));
            refusedWorked(BAD, x -> x.tell(0, bad, 0));
            refusedWorked(BAD, x -> x.tell(0, 0, bad));
            refusedWorked(BAD, x -> x.order(bad));
            refusedWorked(BAD, x -> x.put(bad, 0, 1));
            refusedWorked(BAD, x -> x.put(0, bad, 1));
            refusedWorked(BAD, x -> x.put(0, 0, bad));
            refusedWorked(BAD, x -> x.fill(bad, 1));
            refusedWorked(BAD, x -> x.fill(0, bad));
            refusedWorked(BAD, x -> x.size(bad, 1));
            refusedWorked(BAD, x -> x.size(0, bad));
            refusedWorked(BAD, x -> x.size(1, bad));
            refusedWorked(BAD, x -> x.drift(bad));
            refusedWorked(BAD, x -> x.type(bad));
        }
        refusedWorked(BAD, x -> x.drift(41));
        refusedWorked(BAD, x -> x.seed(-1));
        refusedWorked(BAD, x -> x.order(20414));
        refusedWorked(NOT, x -> x.tell(3, 1, 0x012));
        refusedWorked(NOT, x -> x.order(20413));
        refusedWorked(NOT, x -> x.put(0, 0, 9));
        refusedWorked(NOT, x -> x.fill(0, 9));
        refusedWorked(NOT, x -> x.size(0, 2));
        refusedWorked(NOT, x -> x.size(1, 2));
        refusedSheets();
        refusedOthers();
    }

    private static void refusedSheets() {
        refusedWorked(BAD, x -> x.sheet(4, 0, 1));
        refusedWorked(BAD, x -> x.sheet(0, 4, 1));
        refusedWorked(BAD, x -> x.sheet(0, 0, 25));
        refusedWorked(Checks.SIZE, x -> x.sheet(0, 0, -1));
        refusedWorked(BAD, x -> x.drop(4));
        refusedWorked(NULL, x -> x.drop(2));
        refusedWorked(CAST, x -> x.item(0, 3, 0, 5));
        refusedWorked(INDEX, x -> x.item(0, 2, 4, 5));
        refusedWorked(NULL, x -> x.item(2, 2, 0, 5));
        refusedWorked(INDEX, x -> x.film(0, 1, 0, 3));
        refusedWorked(CAST, x -> x.film(0, 1, 1, 0));
        refusedWorked(NULL, x -> x.film(0, 2, 1, 0));
        refusedWorked(BAD, x -> x.film(2, 1, 0, 0));
        refusedWorked(INDEX, x -> x.copy(0, 3, 0, 0, 2));
        refusedWorked(INDEX, x -> x.copy(0, 0, 0, 3, 2));
        refusedWorked(CAST, x -> x.copy(0, 0, 1, 0, 2));
        refusedWorked(NULL, x -> x.copy(2, 0, 0, 0, 1));
        refusedWorked(NOT, x -> x.seen(0, 0, 2, 2, 1));
        refusedWorked(INDEX, x -> x.seen(0, 0, 2, 3, 1));
    }

    private static void refusedOthers() {
        PartedInks full = new PartedInks();
        full.type('8');
        full.type('a');
        for (int k = 2; k < 100; k++) {
            full.type(' ');
        }
        due("FULL", full.type('/'), FULL);
        due("the tape behind it", full.draw(), 8);
        PartedInks grown = Checks.drawn("a./.b");
        grown.put(0, 0, 2);
        due("grow, none would", grown.grow(), NOT);
        due("steps behind it", grown.count(12), 1);
        Checks.dueSets(grown, "2,0/0,2");
        PartedInks fault = Checks.worked();
        fault.type('/');
        due("as told: a fault empties the tape", fault.draw(), -23);
        due("as told: a fault empties the tape", fault.type('a'), 1);
        due("but all else stays", fault.count(12), 4);
        PartedInks fresh = new PartedInks();
        due("none to be undone", fresh.undo(), NONE);
        due("no image", fresh.restore(), NONE);
        Checks.dueText("all behind these", Checks.state(fresh), Checks.state(new PartedInks()));
    }

    private static void setsAreBits() {
        PartedInks x = Checks.drawn("abcde");
        for (int ink = 0; ink < 5; ink++) {
            due("the set of ink " + ink, x.place(ink, 0, 0), 1 << ink);
        }
        due("all inks", x.count(11), 31);
        for (int bad : new int[] {-1, 32, 63, MOST, LEAST}) {
            due("set(" + bad + ")", x.set(bad, 0), BAD);
            due("put(.., " + bad + ")", x.put(0, 0, bad), BAD);
            due("fill(.., " + bad + ")", x.fill(0, bad), BAD);
        }
        due("the least set", x.put(0, 0, 0), 1);
        due("the greatest set", x.put(0, 0, 31), 0);
        due("the greatest set", x.fill(0, 0), 1);
        due("the greatest set", x.fill(0, 31), 1);
        due("the least set", x.set(0, 3), 0);
        due("the greatest set", x.set(31, 3), 1);
    }

    // ---- 1 inks and looks

    private static void looks() {
        Checks.sentence("INKS 0 .. 4 are of a KIND (0 at first), have a TONE", TermsBoundaries::inkBounds);
        Checks.sentence("three numbers 0 .. 15 each, told as 256 the first, 16 the second, and the third together", TermsBoundaries::toneBounds);
        Checks.sentence("(at first 0xff0, 0xf0f, 0x0ff, 0x888, 0x444)", TermsBoundaries::firstTones);
        Checks.sentence("THE ORDER is a row of all INKS (0 1 2 3 4 at first), told as five figures (01234 is 1234)", TermsBoundaries::orderBounds);
        Checks.sentence("that of a set begins as 15 15 15", () -> due("the look of none", new PartedInks().set(0, 0), 0xfff));
        Checks.sentence("INK by INK, by THE ORDER, if the set has it", TermsBoundaries::inkByInk);
        Checks.sentence("0 CLEAR: v f / 15 (cut)", TermsBoundaries::clear);
        Checks.sentence("1 OPAQUE: f", TermsBoundaries::opaque);
        Checks.sentence("2 MILKY (below CLEAR): half of CLEAR's and f together (cut)", TermsBoundaries::milky);
        Checks.sentence("3 METAL (below OPAQUE): OPAQUE's and 1, 15 at most", TermsBoundaries::metal);
        Checks.sentence("DARK of a set: 45 less the three numbers of its LOOK", TermsBoundaries::dark);
    }

    private static void inkBounds() {
        PartedInks x = new PartedInks();
        for (int ink = 0; ink < 5; ink++) {
            due("kind at first", x.ink(ink, 0), 0);
            for (int kind = 3; kind >= 0; kind--) {
                due("tell", x.tell(ink, kind, 1), 1);
                due("kind", x.ink(ink, 0), kind);
            }
        }
        for (int bad : new int[] {-1, 5, 8, MOST, LEAST}) {
            due("no ink " + bad, x.ink(bad, 0), BAD);
            due("no ink " + bad, x.tell(bad, 1, 1), BAD);
            due("no ink " + bad, x.gaps(bad, 0, 0), BAD);
            due("no ink " + bad, x.aside(bad, 0, 0, 0, 0), BAD);
            due("no ink " + bad, x.seen(bad, 0, 0, 0, 1), BAD);
        }
        for (int bad : new int[] {-1, 4, 5, MOST, LEAST}) {
            due("no kind " + bad, x.tell(0, bad, 1), BAD);
        }
    }

    private static void toneBounds() {
        PartedInks x = new PartedInks();
        for (int tone : new int[] {0, 1, 15, 16, 255, 256, 4095}) {
            due("tell, tone " + tone, x.tell(4, 1, tone), 1);
            due("tone", x.ink(4, 1), tone);
            due("it looks so", x.set(16, 0), tone);
        }
        for (int bad : new int[] {-1, 4096, 0x10000, MOST, LEAST}) {
            due("no tone " + bad, x.tell(4, 1, bad), BAD);
        }
        x.tell(4, 1, 256 * 1 + 16 * 10 + 5);
        due("45 less 1, 10, 5", x.ink(4, 3), 29);
        x.tell(3, 1, 0xfff);
        x.order(43210);
        x.tell(4, 0, 0);
        due("clear over nothing, then opaque", x.set(24, 0), 0xfff);
    }

    private static void firstTones() {
        PartedInks x = new PartedInks();
        int[] tones = {4080, 3855, 255, 2184, 1092};
        for (int ink = 0; ink < 5; ink++) {
            due("tone of ink " + ink, x.ink(ink, 1), tones[ink]);
        }
    }

    private static void orderBounds() {
        PartedInks x = new PartedInks();
        due("at first", x.count(2), 1234);
        for (int ink = 0; ink < 5; ink++) {
            due("place of ink " + ink, x.ink(ink, 2), ink);
        }
        int was = 1234;
        for (int figures : new int[] {1243, 43210, 43201, 10234, 40123}) {
            due("order(" + figures + ")", x.order(figures), was);
            due("the order", x.count(2), figures);
            was = figures;
        }
        int[] at40123 = {1, 2, 3, 4, 0};
        for (int ink = 0; ink < 5; ink++) {
            due("place of ink " + ink, x.ink(ink, 2), at40123[ink]);
        }
        for (int bad : new int[] {0, 123, 234, 1233, 1235, 10233, 11234, 12345, 43211, 44444, 54321, 98765, 99999, 101234, 143210,
            100000, 1001234, -1234, -43210, MOST, LEAST}) {
            due("no order " + bad, x.order(bad), BAD);
        }
    }

    private static void inkByInk() {
        PartedInks x = new PartedInks();
        x.tell(0, 1, 0x123);
        x.tell(1, 1, 0x456);
        x.tell(4, 1, 0);
        due("the later one hides", x.set(3, 0), 0x456);
        x.order(10234);
        due("the later one hides", x.set(3, 0), 0x123);
        x.order(12340);
        due("ink 4 is not of this set", x.set(3, 0), 0x123);
        due("of this set it is hidden", x.set(19, 0), 0x123);
        due("of this set it hides", x.set(18, 0), 0);
    }

    /** The look of an ink of a kind and tone over a look. */
    private static int over(int look, int kind, int tone) {
        PartedInks x = new PartedInks();
        x.tell(0, 1, look);
        x.tell(1, kind, tone);
        return x.set(3, 0);
    }

    private static void clear() {
        due("44 / 15, 49 / 15, 196 / 15", over(0xb7e, 0, 0x47e), 0x23d);
        due("nothing of anything", over(0xf80, 0, 0x00f), 0);
        due("all of it", over(0xfa1, 0, 0xfff), 0xfa1);
        due("over white", over(0xfff, 0, 0x18e), 0x18e);
        due("14 / 15, 15 / 15, 16 / 15", over(0x238, 0, 0x752), 0x011);
    }

    private static void opaque() {
        due("over black", over(0x000, 1, 0xf80), 0xf80);
        due("over white", over(0xfff, 1, 0xf80), 0xf80);
        due("the least and the greatest", over(0x888, 1, 0x00f), 0x00f);
    }

    private static void milky() {
        due("(2 + 5) / 2, (2 + 4) / 2, (0 + 1) / 2", over(0x8b0, 2, 0x541), 0x330);
        due("over black, half", over(0x000, 2, 0xfe1), 0x770);
        due("over white, as it is", over(0xfff, 2, 0xf70), 0xf70);
        due("nothing", over(0xfff, 2, 0), 0);
    }

    private static void metal() {
        due("15 at most", over(0x000, 3, 0xfff), 0xfff);
        due("14 and 1", over(0x000, 3, 0xeee), 0xfff);
        due("13 and 1", over(0x000, 3, 0xddd), 0xeee);
        due("0 and 1", over(0xfff, 3, 0x000), 0x111);
        due("each of its own", over(0xfff, 3, 0xf0e), 0xf1f);
    }

    private static void dark() {
        PartedInks x = new PartedInks();
        due("the least", x.set(0, 1), 0);
        due("the greatest", x.set(31, 1), 45);
        x.tell(0, 1, 0x700);
        due("by the first", x.set(1, 1), 38);
        x.tell(0, 1, 0x070);
        due("by the second", x.set(1, 1), 38);
        x.tell(0, 1, 0x007);
        due("by the third", x.set(1, 1), 38);
        x.tell(0, 1, 0xfff);
        due("of white", x.ink(0, 3), 0);
    }

    // ---- 1 the drawing

    private static void drawings() {
        Checks.sentence("W wide (1 .. 8; 4 at first), H high (1 .. 6; 3 at first)", TermsBoundaries::sizeBounds);
        Checks.sentence("in each of which a set is drawn (none at first)", TermsBoundaries::noneAtFirst);
        Checks.sentence("PLACES of one set that hang together by sides (sets are the same, not LOOKS)", TermsBoundaries::bySides);
        Checks.sentence("numbered by their first PLACE, line by line", TermsBoundaries::numbered);
        Checks.sentence("how many unlike ones its PLACES have", TermsBoundaries::unlikeLooks);
        Checks.sentence("how many sets of INKS have the LOOK of a set (itself, too)", TermsBoundaries::alike);
        Checks.sentence("the fewest INKS (of like ones the least set) so that each LOOK of THE DRAWING is that of some set of these",
            TermsBoundaries::few);
    }

    private static void sizeBounds() {
        PartedInks x = new PartedInks();
        due("W at first", x.count(0), 4);
        due("H at first", x.count(1), 3);
        int was = 4;
        for (int wide : new int[] {1, 8, 7, 2}) {
            due("size(0, " + wide + ")", x.size(0, wide), was);
            due("W", x.count(0), wide);
            due("the last place", x.place(wide - 1, 2, 0), 0);
            due("none behind it", x.place(wide, 2, 0), BAD);
            was = wide;
        }
        was = 3;
        for (int high : new int[] {1, 6, 5, 2}) {
            due("size(1, " + high + ")", x.size(1, high), was);
            due("H", x.count(1), high);
            due("the last place", x.place(1, high - 1, 0), 0);
            due("none behind it", x.place(1, high, 0), BAD);
            was = high;
        }
        for (int bad : new int[] {0, 9, -1, 16, MOST, LEAST}) {
            due("no W " + bad, x.size(0, bad), BAD);
            due("no H " + bad, x.size(1, bad), BAD);
        }
        due("no H 7", x.size(1, 7), BAD);
        due("no H 8", x.size(1, 8), BAD);
    }

    private static void noneAtFirst() {
        Checks.dueSets(new PartedInks(), "0,0,0,0/0,0,0,0/0,0,0,0");
        due("inks that are drawn", new PartedInks().count(11), 0);
    }

    private static void bySides() {
        due("corners alone", Checks.drawn("a./.a").count(3), 4);
        due("side by side", Checks.drawn("2a").count(3), 1);
        due("one below the other", Checks.drawn("a/a").count(3), 1);
        due("the end of a line and the next one's begin", Checks.drawn("7.a/a7.").count(3), 3);
        due("the end of a line and its begin", Checks.drawn("a6.a").count(3), 3);
        due("the last line and the first", Checks.drawn("a/./././b/a").count(3), 4);
        due("all along the edge", Checks.drawn("8a/a6.a/a6.a/a6.a/a6.a/8a").area(0, 1), 24);
        due("all of it", Checks.drawn("8a/8a/8a/8a/8a/8a").area(0, 1), 48);
        due("a snake", Checks.drawn("8a/7.a/8a/a7./8a/7.a").area(0, 1), 27);
        PartedInks alike = Checks.drawn("ab.");
        alike.tell(1, 0, 0xff0);
        due("looks are the same, sets are not", alike.count(3), 3);
        due("looks are the same", alike.place(0, 0, 1), alike.place(1, 0, 1));
        PartedInks unlike = Checks.drawn("a(ab)b");
        due("an ink in common is not the same set", unlike.count(3), 3);
    }

    private static void numbered() {
        PartedInks x = Checks.drawn(".a/2a/b.");
        int[] want = {0, 1, 1, 1, 2, 3};
        for (int k = 0; k < 6; k++) {
            due("area of place " + k, x.place(k % 2, k / 2, 2), want[k]);
        }
        due("x of the first place, not of the leftmost", x.area(1, 3), 1);
        due("y of the first place", x.area(1, 4), 0);
        PartedInks comb = Checks.drawn("a.a.a/5a");
        int[] inLine = {0, 1, 0, 2, 0};
        for (int k = 0; k < 5; k++) {
            due("area of a comb's tooth " + k, comb.place(k, 0, 2), inLine[k]);
        }
        due("areas of a comb", comb.count(3), 3);
    }

    private static void unlikeLooks() {
        due("one", new PartedInks().count(4), 1);
        due("none's look, too", Checks.drawn("a.").count(4), 2);
        due("like sets", Checks.drawn("aba").count(4), 2);
        PartedInks x = Checks.drawn("abc");
        x.tell(2, 0, 0xf0f);
        due("unlike sets of one look", x.count(4), 2);
        x.tell(2, 0, 0xfff);
        text(x, "abc.");
        due("an ink that looks like none", x.count(4), 3);
        due("as many as places", Checks.drawn("abcde(ab)(ac)(bc)").count(4), 8);
        due("sets that are not drawn don't count", Checks.drawn("2e").count(4), 1);
        due("the greatest set", Checks.drawn("(abcde)").count(4), 1);
        due("the greatest set and the least", Checks.drawn("(abcde).(abcde)").count(4), 2);
        due("the greatest set looks like another", Checks.drawn("(abcde)(abc)(abcd)").count(4), 1);
    }

    private static void text(PartedInks x, String letters) {
        due("draw() of " + letters, Checks.text(x, letters) > 0 ? 1 : 0, 1);
    }

    private static void alike() {
        PartedInks x = new PartedInks();
        due("itself alone", x.set(8, 2), 1);
        due("none itself alone", x.set(0, 2), 1);
        due("black ones", x.set(31, 2), 4);
        for (int ink = 0; ink < 5; ink++) {
            x.tell(ink, 1, 0);
        }
        due("all but none", x.set(31, 2), 31);
        due("all but none", x.set(1, 2), 31);
        due("none", x.set(0, 2), 1);
        for (int ink = 0; ink < 5; ink++) {
            x.tell(ink, 0, 0xfff);
        }
        due("all, the first", x.set(0, 2), 32);
        due("all, the last", x.set(31, 2), 32);
    }

    private static void few() {
        due("nothing drawn", new PartedInks().count(5), 0);
        due("all are needed", Checks.drawn("abcde").count(5), 31);
        PartedInks x = Checks.drawn("b");
        x.tell(0, 0, 0xf0f);
        due("of like ones the least", x.count(5), 1);
        PartedInks y = Checks.drawn("(ab)");
        due("by two", y.count(5), 3);
        y.tell(4, 1, 0xf00);
        due("the fewest ahead of the least", y.count(5), 16);
        y.tell(3, 1, 0xf00);
        due("of like ones the least", y.count(5), 8);
        text(y, "(ab)a");
        due("by 0 and 1, not by 0 and 3: the least", y.count(5), 3);
        y.tell(2, 3, 0xe00);
        due("an ink that looks otherwise", y.count(5), 3);
        PartedInks white = Checks.drawn("2(abcde)");
        for (int ink = 0; ink < 5; ink++) {
            white.tell(ink, 0, 0xfff);
        }
        due("the look of none needs none", white.count(5), 0);
        due("the greatest set, by those that look like it", Checks.drawn("(abcde)").count(5), 7);
    }

    // ---- 2 aside

    private static void aside() {
        Checks.sentence("dx, dy (-1 .. 1 each) aside", TermsBoundaries::asideBounds);
        Checks.sentence("it prints where its PLACES are that far off", TermsBoundaries::thatFarOff);
        Checks.sentence("(what falls out is lost)", TermsBoundaries::fallsOut);
        Checks.sentence("a PLACE in which some set is drawn and nothing is printed then", TermsBoundaries::gap);
        Checks.sentence("of all INKS and dx, dy the one with most GAPS", TermsBoundaries::mostGaps);
        Checks.sentence("of like ones the first (INK by INK, then dy from -1, then dx)", TermsBoundaries::firstWorst);
        Checks.sentence("told as 100 the INK, 10 (dy and 1), and dx and 1 together", TermsBoundaries::worstTold);
        Checks.sentence("none: no GAP by any", TermsBoundaries::noWorst);
    }

    private static void dueFarBad(IntBinaryOperator call) {
        for (int bad : new int[] {-2, 2, MOST, LEAST}) {
            due("dx " + bad, call.applyAsInt(bad, 0), BAD);
            due("dy " + bad, call.applyAsInt(0, bad), BAD);
        }
        for (int dy = -1; dy <= 1; dy++) {
            for (int dx = -1; dx <= 1; dx++) {
                due("dx " + dx + ", dy " + dy, call.applyAsInt(dx, dy) < 0 ? 1 : 0, 0);
            }
        }
    }

    private static void asideBounds() {
        PartedInks x = Checks.drawn("3a/3b/3c");
        dueFarBad((dx, dy) -> x.gaps(0, dx, dy));
        dueFarBad((dx, dy) -> x.aside(0, dx, dy, 1, 1));
    }

    private static void thatFarOff() {
        PartedInks x = Checks.drawn("3./.d./3.");
        for (int dy = -1; dy <= 1; dy++) {
            for (int dx = -1; dx <= 1; dx++) {
                for (int k = 0; k < 9; k++) {
                    boolean there = k % 3 == 1 + dx && k / 3 == 1 + dy;
                    due("dx " + dx + ", dy " + dy + " at " + k, x.aside(3, dx, dy, k % 3, k / 3), there ? 8 : 0);
                }
            }
        }
        PartedInks y = Checks.drawn("(ab)(bc)");
        due("the other inks stay", y.aside(0, 1, 0, 1, 0), 7);
        due("the other inks stay", y.aside(0, 1, 0, 0, 0), 2);
        due("the other way", y.aside(2, -1, 0, 0, 0), 7);
    }

    private static void fallsOut() {
        PartedInks x = Checks.drawn("7.a/8./8./8./8./b7.");
        due("not into the same line", x.aside(0, 1, 0, 0, 0), 0);
        due("not into the next line", x.aside(0, 1, 0, 0, 1), 0);
        due("not into the line below the next", x.aside(0, 1, 1, 0, 2), 0);
        due("not to the bottom", x.aside(0, 0, -1, 7, 5), 0);
        due("not into the same line", x.aside(1, -1, 0, 7, 5), 0);
        due("not into the line ahead", x.aside(1, -1, 0, 7, 4), 0);
        due("not to the top", x.aside(1, 0, 1, 0, 0), 0);
        due("lost: a gap", x.gaps(0, 1, 0), 1);
        due("lost: a gap", x.gaps(1, 0, 1), 1);
        PartedInks gone = Checks.drawn("ab/cd");
        gone.size(0, 1);
        gone.size(1, 1);
        due("a place that is gone prints nothing", gone.aside(1, -1, 0, 0, 0), 1);
        due("a place that is gone prints nothing", gone.aside(2, 0, -1, 0, 0), 1);
        due("a place that is gone prints nothing", gone.aside(3, -1, -1, 0, 0), 1);
        due("one place alone", gone.aside(0, 0, 1, 0, 0), 0);
    }

    private static void gap() {
        due("where it lies", Checks.drawn("3a").gaps(0, 0, 0), 0);
        due("some other ink is printed", Checks.drawn("3(ab)").gaps(0, 0, 1), 0);
        due("its own ink is printed", Checks.drawn("3a").gaps(0, 1, 0), 1);
        due("no set is drawn there", Checks.drawn("3.a").gaps(0, -1, 0), 1);
        due("no set is drawn there", Checks.drawn("8.").gaps(0, 1, 1), 0);
        due("all of it", Checks.drawn("8a").gaps(0, 0, 1), 8);
        due("an ink that is not drawn", Checks.drawn("8a").gaps(4, 0, 1), 0);
        due("what is printed twice is no gap", Checks.drawn("ab").gaps(0, 1, 0), 1);
    }

    private static void mostGaps() {
        PartedInks x = Checks.drawn("2a3b/2a3b");
        due("by ink 1, not by 0", x.count(6), 100);
        due("so many", x.count(7), 4);
        x.put(4, 0, 4);
        due("by dx 1, dy -1, not by the first", x.count(6), 102);
        due("so many", x.count(7), 4);
        due("fewer by the first", x.gaps(1, -1, -1), 3);
    }

    private static void firstWorst() {
        due("of inks the least", Checks.drawn("e.b").count(6), 100);
        due("of dy the least", Checks.drawn("c").count(6), 200);
        // Most gaps are by dx 1, dy -1 and by dx -1, dy 1.
        PartedInks x = Checks.drawn("2a/.a");
        due("three gaps", x.gaps(0, 1, -1), 3);
        due("three gaps", x.gaps(0, -1, 1), 3);
        due("fewer", x.gaps(0, -1, -1), 2);
        due("dy ahead of dx", x.count(6), 2);
        due("ink ahead of dy", Checks.drawn("2b/.b/../2a/.a").count(6), 2);
    }

    private static void worstTold() {
        for (int ink = 0; ink < 5; ink++) {
            for (int dy = -1; dy <= 1; dy++) {
                for (int dx = -1; dx <= 1; dx++) {
                    if (dx != 0 || dy != 0) {
                        dueOneGap(ink, dx, dy);
                    }
                }
            }
        }
    }

    /** The ink is everywhere but in one place beside the middle, and alone in the middle. */
    private static void dueOneGap(int ink, int dx, int dy) {
        PartedInks x = new PartedInks();
        x.size(0, 3);
        int both = (1 << ink) | (1 << (ink + 1) % 5);
        for (int k = 0; k < 9; k++) {
            x.put(k % 3, k / 3, both);
        }
        x.put(1, 1, 1 << ink);
        x.put(1 - dx, 1 - dy, 0);
        due("worst, ink " + ink + " by " + dx + ", " + dy, x.count(6), 100 * ink + 10 * (dy + 1) + dx + 1);
        due("its gaps", x.count(7), 1);
    }

    private static void noWorst() {
        due("nothing drawn", new PartedInks().count(6), NONE);
        due("nothing drawn", new PartedInks().count(7), 0);
        PartedInks x = Checks.drawn("2(ab)/2(cd)");
        due("one over the other", x.count(6), NONE);
        due("one over the other", x.count(7), 0);
        x.put(0, 0, 1);
        due("no longer", x.count(6), 1 - 1);
        due("no longer", x.count(7), 1);
    }

    // ---- 2 grown

    private static void grown() {
        Checks.sentence("for each two PLACES side by side", TermsBoundaries::sideBySide);
        Checks.sentence("in both of which some set is drawn", TermsBoundaries::bothDrawn);
        Checks.sentence("that have no INK in common (as they are ahead of it all)", TermsBoundaries::aheadOfItAll);
        Checks.sentence("the set that is less DARK", TermsBoundaries::lessDark);
        Checks.sentence("(of like ones that of the PLACE that comes first, line by line)", TermsBoundaries::likeDark);
        Checks.sentence("(all that come to one PLACE together)", TermsBoundaries::allTogether);
    }

    private static void dueGrown(String drawing, int many, String sets) {
        PartedInks x = Checks.drawn(drawing);
        due("grow() of " + drawing, x.grow(), many);
        Checks.dueSets(x, sets);
    }

    private static void sideBySide() {
        dueGrown("ad", 1, "1,9");
        dueGrown("a/d", 1, "1/9");
        dueGrown("a./.d", NOT, "1,0/0,8");
        dueGrown(".a/d.", NOT, "0,1/8,0");
        dueGrown("7.a/d7.", NOT, "0,0,0,0,0,0,0,1/8,0,0,0,0,0,0,0");
        dueGrown("a6.d", NOT, "1,0,0,0,0,0,0,8");
        dueGrown("a/./././d/.", NOT, "1/0/0/0/8/0");
        dueGrown("6.ad/6.ea", 2, "0,0,0,0,0,0,1,9/0,0,0,0,0,0,17,1");
        dueGrown("a./d./a./d./a./d.", 3, "1,0/9,0/1,0/9,0/1,0/9,0");
    }

    private static void bothDrawn() {
        dueGrown("a.", NOT, "1,0");
        dueGrown(".a", NOT, "0,1");
        dueGrown("a.b/...", NOT, "1,0,2/0,0,0");
        // An ink that is no darker than the paper would come into an empty place, were that taken for a set.
        PartedInks white = Checks.drawn("a./.a");
        white.tell(0, 0, 0xfff);
        due("white beside none", white.grow(), NOT);
        Checks.dueSets(white, "1,0/0,1");
    }

    private static void aheadOfItAll() {
        dueGrown("2a", NOT, "1,1");
        dueGrown("(ab)(bc)", NOT, "3,6");
        dueGrown("(ab)b", NOT, "3,2");
        dueGrown("abc", 2, "1,3,6");
        dueGrown("a/b/c", 2, "1/3/6");
        // Ink 0 comes to the second place, and still that has none in common with the third one, as it was.
        dueGrown("ada", 1, "1,9,1");
        dueGrown("aed(ab)", 2, "1,25,8,11");
    }

    private static void lessDark() {
        dueGrown("da", 1, "9,1");
        dueGrown("ad", 1, "1,9");
        dueGrown("e/d", 1, "24/8");
        dueGrown("d/e", 1, "8/24");
        dueGrown("(ab)c", 1, "7,4");
        dueGrown("e(abcd)", 1, "16,31");
        PartedInks x = Checks.drawn("ab");
        x.tell(0, 1, 0x000);
        due("by its looks now", x.grow(), 1);
        Checks.dueSets(x, "3,2");
        PartedInks y = Checks.drawn("ab");
        y.tell(0, 0, 0xffe);
        due("one less dark", y.grow(), 1);
        Checks.dueSets(y, "1,3");
        PartedInks z = Checks.drawn("ba");
        z.tell(0, 0, 0xff1);
        due("by one", z.grow(), 1);
        Checks.dueSets(z, "3,1");
    }

    private static void likeDark() {
        dueGrown("ab", 1, "1,3");
        dueGrown("ba", 1, "2,3");
        dueGrown("a/b", 1, "1/3");
        dueGrown("b/a", 1, "2/3");
        dueGrown("c./a.", 1, "4,0/5,0");
        PartedInks x = Checks.drawn("(ab)(cd)");
        x.tell(3, 0, 0xf0f);
        due("sets that are as dark", x.set(3, 1), x.set(12, 1));
        due("the first one", x.grow(), 1);
        Checks.dueSets(x, "3,15");
    }

    private static void allTogether() {
        dueGrown(".a./bec/.d.", 1, "0,1,0/2,31,4/0,8,0");
        dueGrown("aeb", 1, "1,19,2");
        dueGrown("a/e/b", 1, "1/19/2");
        dueGrown("ab/cd", 3, "1,3/5,14");
    }

    // ---- 2 orders and odds

    private static void ordersAndOdds() {
        Checks.sentence("of all 120, how many leave each PLACE the LOOK that it has", TermsBoundaries::of120);
        Checks.sentence("the first of these (by their numbers)", TermsBoundaries::firstOrder);
        Checks.sentence("FAIL by c of 10 (0 .. 10)", TermsBoundaries::failBounds);
        Checks.sentence("each plate of the INKS that are drawn somewhere prints nothing by c of 10, apart", TermsBoundaries::failApart);
        Checks.sentence("a fraction in lowest terms", TermsBoundaries::lowestTerms);
        Checks.sentence("INKS by their DARK when printed alone", TermsBoundaries::darkAlone);
        Checks.sentence("(the least first; of like ones the lesser number), told as THE ORDER is", TermsBoundaries::orderByDark);
    }

    private static void makeOpaque(PartedInks x) {
        for (int ink = 0; ink < 5; ink++) {
            x.tell(ink, 1, 0x111 * (ink + 1));
        }
    }

    private static PartedInks allPairs() {
        PartedInks x = Checks.drawn("(ab)(ac)(ad)(ae)(bc)/(bd)(be)(cd)(ce)(de)");
        makeOpaque(x);
        return x;
    }

    private static void of120() {
        due("nothing drawn", new PartedInks().count(8), 120);
        PartedInks alone = Checks.drawn("abcde");
        makeOpaque(alone);
        due("each alone", alone.count(8), 120);
        PartedInks pairs = allPairs();
        due("each two over each other: none but this", pairs.count(8), 1);
        PartedInks two = Checks.drawn("(ab)");
        makeOpaque(two);
        due("one over the other", two.count(8), 60);
        text(two, "(ab)(bc)");
        due("a, b, c", two.count(8), 20);
        text(two, "(ab)(cb)");
        two.order(2134);
        due("b behind a and behind c", two.count(8), 40);
        two.tell(1, 1, 0x111);
        text(two, "(ab)");
        due("alike by either", two.count(8), 120);
        PartedInks all = Checks.drawn("(abcde)");
        makeOpaque(all);
        due("the last one alone", all.count(8), 24);
    }

    private static void firstOrder() {
        PartedInks any = new PartedInks();
        any.order(43210);
        due("the first of all", any.count(9), 1234);
        PartedInks pairs = allPairs();
        pairs.order(43210);
        due("the last of all, the only one", pairs.count(9), 43210);
        pairs.order(20413);
        due("the only one", pairs.count(9), 20413);
        PartedInks two = Checks.drawn("(ab)");
        makeOpaque(two);
        two.order(43210);
        due("b ahead of a", two.count(9), 10234);
        text(two, "(abcde)");
        due("a behind all", two.count(9), 12340);
    }

    private static void failBounds() {
        PartedInks x = Checks.drawn("ab");
        due("0 of 10, above", x.fail(0, 0), 1);
        due("0 of 10, below", x.fail(0, 1), 1);
        due("1 of 10, above", x.fail(1, 0), 81);
        due("1 of 10, below", x.fail(1, 1), 100);
        due("9 of 10, above", x.fail(9, 0), 1);
        due("9 of 10, below", x.fail(9, 1), 100);
        due("10 of 10, above", x.fail(10, 0), 0);
        due("10 of 10, below", x.fail(10, 1), 1);
        for (int bad : new int[] {-1, 11, 100, MOST, LEAST}) {
            due("c " + bad, x.fail(bad, 0), BAD);
            due("c " + bad, x.fail(bad, 1), BAD);
        }
    }

    private static void dueOdds(String drawing, int c, int above, int below) {
        PartedInks x = Checks.drawn(drawing);
        due(drawing + " by " + c + ", above", x.fail(c, 0), above);
        due(drawing + " by " + c + ", below", x.fail(c, 1), below);
    }

    private static void failApart() {
        dueOdds("8.", 3, 1, 1);
        dueOdds("8.", 10, 1, 1);
        dueOdds("a", 3, 7, 10);
        dueOdds("e", 3, 7, 10);
        dueOdds("5a", 3, 7, 10);
        dueOdds("(ab)", 3, 91, 100);
        dueOdds("a(ab)", 3, 7, 10);
        dueOdds("ab", 3, 49, 100);
        dueOdds("(ab)(bc)", 3, 847, 1000);
        dueOdds("abcde", 1, 59049, 100000);
        dueOdds("(abcde)", 1, 99999, 100000);
        dueOdds("(abcde)", 9, 40951, 100000);
        PartedInks gone = Checks.drawn("ab");
        gone.size(0, 1);
        due("an ink that is drawn no longer", gone.fail(3, 1), 10);
    }

    private static void lowestTerms() {
        dueOdds("a", 0, 1, 1);
        dueOdds("a", 10, 0, 1);
        dueOdds("(abcde)", 10, 0, 1);
        dueOdds("(abcde)", 0, 1, 1);
        dueOdds("a", 2, 4, 5);
        dueOdds("a", 5, 1, 2);
        dueOdds("a", 4, 3, 5);
        dueOdds("(ab)", 5, 3, 4);
        dueOdds("abcde", 5, 1, 32);
        dueOdds("(abcde)", 5, 31, 32);
        dueOdds("(abcde)", 2, 3124, 3125);
        dueOdds("ab", 6, 4, 25);
    }

    private static void darkAlone() {
        PartedInks x = new PartedInks();
        x.tell(0, 3, 0x443);
        due("metal is lighter by three", x.count(10), 12304);
        x.tell(0, 1, 0x443);
        due("opaque is not", x.count(10), 12340);
        PartedInks y = new PartedInks();
        y.tell(0, 1, 0);
        y.order(43210);
        due("alone, not over others", y.count(10), 12340);
    }

    private static void orderByDark() {
        due("at first", new PartedInks().count(10), 1234);
        PartedInks x = new PartedInks();
        for (int ink = 0; ink < 5; ink++) {
            x.tell(ink, 1, 0x111 * ink);
        }
        due("the least first", x.count(10), 43210);
        for (int ink = 0; ink < 5; ink++) {
            x.tell(ink, 1, 0x080 >> (ink % 2 * 4));
        }
        x.order(43210);
        due("of like ones the lesser number", x.count(10), 1234);
        x.tell(2, 1, 0x090);
        due("one by one number", x.count(10), 20134);
        x.tell(4, 1, 0x900);
        due("two by two", x.count(10), 24013);
    }

    // ---- 3 steps

    private static void steps() {
        Checks.sentence("a row tells n pairs (1 .. 6): a set, a LOOK", TermsBoundaries::pairs);
        Checks.sentence("KINDS (a set) of an INK by which these are so", TermsBoundaries::kindsSeen);
        Checks.sentence("the latest of an INK, THE ORDER, a PLACE told, of an AREA FILLED, of GROWN, W, H told, a turn of a DRIFT, is as it had not been",
            TermsBoundaries::theLatest);
        Checks.sentence("(6 are known, older ones lost)", TermsBoundaries::sixAreKnown);
        Checks.sentence("INKS, THE ORDER, THE DRAWING, THE DRAW are as ahead of it, whatever was told since", TermsBoundaries::asAheadOfIt);
        Checks.sentence("a DRAWING told as a TEXT leaves nothing to be UNDONE", TermsBoundaries::textLeavesNothing);
        Checks.sentence("PLACES that are still there stay, new ones have none", TermsBoundaries::sizeTold);
        Checks.sentence("all PLACES of an AREA get another set", TermsBoundaries::areaFilled);
        Checks.sentence("THE DRAW is a number of 31 bits (1 at first)", TermsBoundaries::drawBounds);
        Checks.sentence("it becomes the lowest 31 bits of itself times 1103515245 and 12345 more", TermsBoundaries::lowest31Bits);
        Checks.sentence("x is it by 65536 (cut): the PLACE x left over by W, x by 8 left over by H, gets the set x by 64 left over by 32",
            TermsBoundaries::driftPlace);
    }

    private static void pairs() {
        PartedInks x = new PartedInks();
        Checks.row(x, 0, 1, 1, 0xff0, 2, 0xf0f, 4, 0x0ff, 8, 0x888, 1, 0xff0, 2, 0xf0e);
        due("one pair", x.seen(4, 0, 1, 0, 1), ALL_KINDS);
        due("five pairs", x.seen(4, 0, 1, 0, 5), ALL_KINDS);
        due("six pairs, the last one is not so", x.seen(4, 0, 1, 0, 6), 0);
        x.item(0, 1, 11, 0xf0f);
        due("six pairs", x.seen(4, 0, 1, 0, 6), ALL_KINDS);
        x.sheet(1, 1, 24);
        for (int bad : new int[] {0, 7, 12, -1, MOST, LEAST}) {
            due("n " + bad, x.seen(4, 0, 1, 0, bad), BAD);
            due("n " + bad + ", of 24 items", x.seen(4, 1, 1, 0, bad), BAD);
        }
        Checks.row(x, 2, 1, 0xff0, 1, 0xff0, 5);
        due("a set comes first", x.seen(4, 2, 1, 1, 1), ALL_KINDS);
        due("a look comes second", x.seen(4, 2, 1, 0, 1), NOT);
    }

    private static void kindsSeen() {
        PartedInks x = new PartedInks();
        Checks.row(x, 0, 2, 3, 0xf00, 3, 0xf0f, 3, 0xf07, 3, 0xf1f, 3, 0x123, 0, 0xfff);
        for (int kind = 0; kind < 4; kind++) {
            due("kind " + kind + " alone", x.seen(1, 0, 2, 2 * kind, 1), 1 << kind);
        }
        due("of no kind", x.seen(1, 0, 2, 8, 1), 0);
        due("of any kind", x.seen(1, 0, 2, 10, 1), ALL_KINDS);
        due("not by both", x.seen(1, 0, 2, 0, 2), 0);
        x.tell(1, 3, 0xf0f);
        due("whatever kind it is of now", x.seen(1, 0, 2, 0, 1), 1);
        for (int kind = 0; kind < 4; kind++) {
            x.tell(1, kind, 0xf0f);
            due("whatever kind it is of now", x.seen(1, 0, 2, 0, 1), 1);
            due("which stays", x.ink(1, 0), kind);
        }
        x.tell(0, 3, 0xff0);
        due("by the kinds that others are of", x.seen(1, 0, 2, 0, 1), 0);
    }

    private static void undoes(ToIntFunction<PartedInks> step) {
        PartedInks x = Checks.drawn("ab/cd");
        x.tell(0, 1, 0x121);
        String ahead = Checks.state(x);
        int draw = Checks.draw(x);
        due("the step is done", step.applyAsInt(x) < 0 ? 0 : 1, 1);
        due("steps", x.count(12), 2);
        due("undo()", x.undo(), 1);
        Checks.dueText("all behind undo()", Checks.state(x), ahead);
        due("the draw", Checks.draw(x), draw);
        due("undo()", x.undo(), 0);
        due("the step ahead", x.ink(0, 1), 0xff0);
    }

    private static void theLatest() {
        undoes(x -> x.tell(1, 0, 0xf0e));
        undoes(x -> x.tell(1, 1, 0xf0f));
        undoes(x -> x.order(1243));
        undoes(x -> x.put(1, 1, 0));
        undoes(x -> x.fill(3, 1));
        undoes(PartedInks::grow);
        undoes(x -> x.size(0, 1));
        undoes(x -> x.size(0, 8));
        undoes(x -> x.size(1, 1));
        undoes(x -> x.size(1, 6));
        undoes(x -> x.drift(1));
        PartedInks x = new PartedInks();
        x.seed(7);
        x.image();
        x.restore();
        x.type('a');
        x.sheet(0, 0, 4);
        x.film(0, 0, 0, 0);
        due("what is no step", x.count(12), 0);
        due("what is no step", x.undo(), NONE);
    }

    private static void sixAreKnown() {
        PartedInks x = new PartedInks();
        for (int set = 1; set <= 9; set++) {
            x.put(0, 0, set);
            due("known", x.count(12), Math.min(set, 6));
        }
        for (int left = 5; left >= 0; left--) {
            due("undo()", x.undo(), left);
            due("its set", x.place(0, 0, 0), left + 3);
        }
        due("older ones are lost", x.undo(), NONE);
        due("and stay done", x.place(0, 0, 0), 3);
        x.put(0, 0, 4);
        due("one more", x.count(12), 1);
        PartedInks turns = new PartedInks();
        turns.tell(0, 1, 1);
        turns.drift(5);
        due("six", turns.count(12), 6);
        turns.drift(1);
        due("six still", turns.count(12), 6);
        for (int left = 5; left >= 0; left--) {
            due("undo()", turns.undo(), left);
        }
        due("the ink told is lost", turns.undo(), NONE);
        due("and stays so", turns.ink(0, 1), 1);
        due("all turns are undone", Checks.draw(turns), 1);
    }

    private static void asAheadOfIt() {
        PartedInks x = new PartedInks();
        x.seed(5);
        x.put(0, 0, 1);
        x.seed(6);
        x.seed(7);
        due("undo()", x.undo(), 0);
        due("the draw ahead of it", Checks.draw(x), 5);
        x.drift(1);
        x.seed(9);
        x.tell(2, 2, 2);
        x.order(43210);
        x.undo();
        x.undo();
        due("the draw ahead of the ink", Checks.draw(x), 9);
        x.undo();
        due("the draw ahead of the turn", Checks.draw(x), 5);
        Checks.dueText("all", Checks.state(x), Checks.state(new PartedInks()));
    }

    private static void textLeavesNothing() {
        PartedInks x = new PartedInks();
        x.drift(6);
        due("a drawing", Checks.text(x, "ab"), 2);
        due("known", x.count(12), 0);
        due("undo()", x.undo(), NONE);
        Checks.dueSets(x, "1,2");
        x.put(0, 0, 0);
        due("the same drawing again", Checks.text(x, "ab"), 2);
        due("undo()", x.undo(), NONE);
        x.put(0, 0, 0);
        due("a fault", Checks.text(x, "ab/"), -23);
        due("leaves it", x.count(12), 1);
    }

    private static void sizeTold() {
        PartedInks x = Checks.drawn("abc/cde/eab");
        x.size(0, 2);
        Checks.dueSets(x, "1,2/4,8/16,1");
        x.size(0, 4);
        Checks.dueSets(x, "1,2,0,0/4,8,0,0/16,1,0,0");
        x.size(1, 2);
        Checks.dueSets(x, "1,2,0,0/4,8,0,0");
        x.size(1, 3);
        Checks.dueSets(x, "1,2,0,0/4,8,0,0/0,0,0,0");
        PartedInks all = Checks.drawn("8a/8b/8c/8d/8e/8a");
        all.size(0, 1);
        all.size(1, 1);
        due("one is still there", all.count(11), 1);
        due("one is still there", all.ink(0, 4), 1);
        all.size(0, 8);
        all.size(1, 6);
        due("new ones have none", all.set(0, 3), 47);
        due("the first stays", all.place(0, 0, 0), 1);
        due("what is gone comes by undo alone", all.undo(), 3);
        all.undo();
        all.undo();
        all.undo();
        due("what is gone comes by undo alone", all.set(0, 3), 0);
    }

    private static void areaFilled() {
        PartedInks x = Checks.drawn("2ab/b2a/a2b");
        due("all of the area", x.fill(0, 4), 4);
        Checks.dueSets(x, "4,4,2/2,4,4/1,2,2");
        due("none of it but one place", x.fill(3, 0), 1);
        Checks.dueSets(x, "4,4,2/2,4,4/0,2,2");
        due("areas of the set elsewhere stay", x.fill(1, 4), 1);
        Checks.dueSets(x, "4,4,4/2,4,4/0,2,2");
        PartedInks none = new PartedInks();
        due("what has none", none.fill(0, 31), 12);
        PartedInks all = Checks.drawn("8a/8a/8a/8a/8a/8a");
        due("the greatest", all.fill(0, 0), 48);
        due("the greatest", all.set(0, 3), 48);
    }

    private static void drawBounds() {
        PartedInks x = new PartedInks();
        due("at first", x.seed(0), 1);
        due("the least", x.seed(MOST), 0);
        due("the greatest", x.seed(1), MOST);
        due("below 0", x.seed(-1), BAD);
        due("below 0", x.seed(LEAST), BAD);
        for (int seed : new int[] {0, 1, MOST, 1 << 30, 99}) {
            x.seed(seed);
            for (int turn = 0; turn < 4; turn++) {
                x.drift(1);
                due("31 bits", Checks.draw(x) < 0 ? 1 : 0, 0);
            }
        }
    }

    private static int nextDraw(long draw) {
        return (int) ((draw * Checks.MULTIPLIER + 12345) % (1L << 31));
    }

    private static void lowest31Bits() {
        PartedInks x = new PartedInks();
        for (int seed : new int[] {0, 1, 2, 12345, 65535, 65536, 1 << 30, (1 << 30) - 1, MOST - 1, MOST}) {
            x.seed(seed);
            x.drift(1);
            due("behind " + seed, Checks.draw(x), nextDraw(seed));
        }
        due("behind 1", nextDraw(1), 1103527590);
        x.seed(MOST);
        x.drift(3);
        due("turn by turn", Checks.draw(x), nextDraw(nextDraw(nextDraw(MOST))));
    }

    private static void driftPlace() {
        for (int wide = 1; wide <= 8; wide++) {
            for (int high = 1; high <= 6; high++) {
                PartedInks x = new PartedInks();
                x.size(0, wide);
                x.size(1, high);
                for (int seed : new int[] {1, MOST, 777, 31415926}) {
                    x.seed(seed);
                    x.drift(1);
                    int number = nextDraw(seed) >> 16;
                    due("its set", x.place(number % wide, (number >> 3) % high, 0), (number >> 6) & 31);
                }
            }
        }
        PartedInks one = new PartedInks();
        one.drift(1);
        Checks.dueSets(one, "0,0,0,0/0,0,7,0/0,0,0,0");
        due("a set that the place has, too, in place of it", Checks.drawn("(abcde)").drift(1), 1);
    }

    // ---- 3 texts

    private static void texts() {
        Checks.sentence("1 to 6 lines with / between", TermsBoundaries::lineBounds);
        Checks.sentence("perhaps a figure 1 .. 8 (how often; else 1)", TermsBoundaries::figureBounds);
        Checks.sentence("then . (no INK), a .. e (an INK)", TermsBoundaries::letterBounds);
        Checks.sentence("or ( , letters a .. e (one at least), ) (these; one twice well)", TermsBoundaries::manyLetters);
        Checks.sentence("each line 1 to 8 PLACES, all alike many", TermsBoundaries::placesOfLines);
        Checks.sentence("in place of THE DRAWING, W, H", TermsBoundaries::inPlace);
    }

    private static void dueDraw(String letters, int want) {
        due("draw() of '" + letters + "'", Checks.text(new PartedInks(), letters), want);
    }

    private static void dueDrawing(String letters, String sets) {
        Checks.dueSets(Checks.drawn(letters), sets);
    }

    private static void lineBounds() {
        dueDraw("", -20);
        dueDraw("a", 1);
        dueDraw("a/a", 2);
        dueDraw("a/a/a/a/a", 5);
        dueDraw("a/a/a/a/a/a", 6);
        dueDraw("a/a/a/a/a/a/a", -31);
        dueDraw("a/a/a/a/a/a/", -31);
        dueDraw("a/a/a/a/a/a//", -31);
        dueDraw("8a/8b/8c/8d/8e/8.", 48);
        dueDraw("8a/8b/8c/8d/8e/8./8a", -37);
        dueDraw("/", -20);
        dueDraw("/a", -20);
        dueDraw("a/", -22);
        dueDrawing("a/b/c/d/e/.", "1/2/4/8/16/0");
    }

    private static void figureBounds() {
        for (int often = 1; often <= 8; often++) {
            dueDraw(often + "a", often);
        }
        dueDraw("0a", -20);
        dueDraw("9a", -20);
        dueDraw("a", 1);
        dueDraw("11a", -21);
        dueDraw("18a", -21);
        dueDraw("2", -21);
        dueDraw("2/a", -21);
        dueDraw("2)", -21);
        dueDraw("a0", -21);
        dueDraw("a9b", -21);
        dueDrawing("2a3(bc).", "1,1,6,6,6,0");
    }

    private static void letterBounds() {
        dueDrawing(".abcde", "0,1,2,4,8,16");
        for (char letter : "f`gzABCDE-,)*+0[@_~!".toCharArray()) {
            dueDraw(String.valueOf(letter), -20);
            dueDraw("a" + letter, -21);
        }
        for (int letter = 33; letter < 127; letter++) {
            boolean stands = INKS.indexOf(letter) >= 0 || letter == '.';
            boolean begins = letter == '(' || (letter >= '1' && letter <= '8');
            dueDraw(String.valueOf((char) letter), stands ? 1 : begins ? -21 : -20);
        }
    }

    private static void manyLetters() {
        dueDraw("()", -21);
        dueDraw("(", -21);
        dueDraw("(a", -22);
        dueDrawing("(a)", "1");
        dueDrawing("(aa)", "1");
        dueDrawing("(abcde)", "31");
        dueDrawing("(edcbaabcdeea)", "31");
        dueDrawing("8(ec)", "20,20,20,20,20,20,20,20");
        dueDraw("(.)", -21);
        dueDraw("(a.)", -22);
        dueDraw("(2a)", -21);
        dueDraw("(a2)", -22);
        dueDraw("(f)", -21);
        dueDraw("(`)", -21);
        dueDraw("(a/b)", -22);
        dueDraw("((a))", -21);
        dueDraw("(a(b))", -22);
        dueDraw("(a))", -23);
        PartedInks most = new PartedInks();
        most.type('(');
        for (int k = 1; k < 99; k++) {
            most.type('e');
        }
        due("the hundredth letter", most.type(')'), 100);
        due("98 times the same", most.draw(), 1);
        Checks.dueSets(most, "16");
    }

    private static void placesOfLines() {
        dueDraw("a", 1);
        dueDraw("8a", 8);
        dueDraw("abcdeabc", 8);
        dueDraw("abcdeabcd", -28);
        dueDraw("8ab", -22);
        dueDraw("4a5a", -22);
        dueDraw("4a4a", 8);
        dueDraw("a//a", -22);
        dueDraw("ab/ab/ab", 6);
        dueDraw("ab/abc", -25);
        dueDraw("ab/a/ab", -24);
        dueDraw("ab/ab/a", -27);
        dueDraw("ab/2a/(a)(b)", 6);
        dueDraw("8a/4b4c/3d(e)4(ab)", 24);
    }

    private static void inPlace() {
        PartedInks x = Checks.drawn("8a/8a/8a/8a/8a/8a");
        due("less", Checks.text(x, "b"), 1);
        due("W", x.count(0), 1);
        due("H", x.count(1), 1);
        due("nothing is left over", x.count(11), 2);
        x.size(0, 8);
        x.size(1, 6);
        due("nothing is left over", x.set(0, 3), 47);
        due("more", Checks.text(x, "3c/3."), 6);
        Checks.dueSets(x, "4,4,4/0,0,0");
        due("places that are told as none have none", x.ink(2, 4), 3);
    }

    // ---- 3 faults

    private static void faults() {
        Checks.sentence("-20 less the place of the first letter (behind blanks) that can't stand there", TermsBoundaries::firstFault);
        Checks.sentence("(a / , or the end, where the line has not as many PLACES as the first one", TermsBoundaries::tooFewPlaces);
        Checks.sentence("of a run by which it has more than that, or than 8, its first letter, whatever is behind it", TermsBoundaries::tooManyPlaces);
        Checks.sentence("blanks count for nothing", TermsBoundaries::blanks);
    }

    private static void firstFault() {
        dueDraw("x", -20);
        dueDraw("xx", -20);
        dueDraw("ax", -21);
        dueDraw("  x", -22);
        dueDraw("a  x", -23);
        dueDraw("2  x", -23);
        dueDraw("(  x", -23);
        dueDraw("(a  x", -24);
        dueDraw("(  )", -23);
        dueDraw("a  /  x", -26);
        dueDraw("a/x/y", -22);
        dueDraw("2x/ab/9", -21);
        dueDraw("2", -21);
        dueDraw("2   ", -24);
        dueDraw("(", -21);
        dueDraw("(a   ", -25);
        dueDraw("   ", -23);
        PartedInks last = new PartedInks();
        for (int k = 0; k < 99; k++) {
            last.type(' ');
        }
        last.type('x');
        due("the hundredth letter", last.draw(), -119);
        for (int k = 0; k < 100; k++) {
            last.type(' ');
        }
        due("the end of a hundred", last.draw(), -120);
    }

    private static void tooFewPlaces() {
        dueDraw("ab/a/ab", -24);
        dueDraw("ab/a", -24);
        dueDraw("ab/a ", -25);
        dueDraw("ab/a  /ab", -26);
        dueDraw("ab/", -23);
        dueDraw("ab//", -23);
        dueDraw("ab/ab/", -26);
        dueDraw("8a/7a/", -25);
        dueDraw("8a/7a", -25);
        dueDraw("8a/8a", 16);
        dueDraw("", -20);
        dueDraw("/", -20);
        dueDraw(" /a", -21);
    }

    private static void tooManyPlaces() {
        dueDraw("8a2x", -22);
        dueDraw("8a2", -22);
        dueDraw("8a1a", -22);
        dueDraw("8a(", -22);
        dueDraw("8a(x", -22);
        dueDraw("8a()", -22);
        dueDraw("8a .", -23);
        dueDraw("7a2b", -22);
        dueDraw("7a2", -22);
        dueDraw("7a2/", -22);
        dueDraw("7a1b", 8);
        dueDraw("7a1x", -23);
        dueDraw("ab/3a", -23);
        dueDraw("ab/3x", -23);
        dueDraw("ab/3", -23);
        dueDraw("ab/a2b", -24);
        dueDraw("ab/a2", -24);
        dueDraw("ab/a 2 x", -25);
        dueDraw("ab/ab(x", -25);
        dueDraw("ab/ab.", -25);
        dueDraw("ab/2x", -24);
        dueDraw("ab/a(x", -25);
        dueDraw("a/8", -22);
    }

    private static void blanks() {
        dueDrawing(" a b / 2 c ", "1,2/4,4");
        dueDrawing("( a  b )", "3");
        dueDrawing("8 ( a b ) / 8 .", "3,3,3,3,3,3,3,3/0,0,0,0,0,0,0,0");
        dueDrawing("a/ b /c", "1/2/4");
        dueDraw("a ", 1);
        dueDraw(" a", 1);
        dueDraw("2 2a", -22);
        dueDraw(" ", -21);
        PartedInks x = new PartedInks();
        for (int k = 0; k < 99; k++) {
            x.type(' ');
        }
        due("a letter behind 99", x.type('d'), 100);
        due("a letter behind 99", x.draw(), 1);
        x.type('d');
        for (int k = 0; k < 99; k++) {
            x.type(' ');
        }
        due("a letter ahead of 99", x.draw(), 1);
    }

    // ---- 3 sheets

    private static void sheets() {
        Checks.sentence("3 sheets 0 .. 3", TermsBoundaries::sheetBounds);
        Checks.sentence("nothing (at first), or a row of a LANE", TermsBoundaries::nothingAtFirst);
        Checks.sentence("0 bytes, 1 shorts, 2 ints, 3 longs", TermsBoundaries::laneBounds);
        Checks.sentence("(all with a sign)", TermsBoundaries::signs);
        Checks.sentence("of 0 to 24 items", TermsBoundaries::itemBounds);
    }

    private static void sheetBounds() {
        PartedInks x = new PartedInks();
        for (int sheet = 0; sheet < 4; sheet++) {
            due("sheet", x.sheet(sheet, sheet, sheet + 10), sheet + 10);
        }
        for (int bad : new int[] {-1, 4, 24, MOST, LEAST}) {
            due("sheet(" + bad + ")", x.sheet(bad, 0, 1), BAD);
            due("drop(" + bad + ")", x.drop(bad), BAD);
            due("item(" + bad + ")", x.item(bad, 0, 0, 0), BAD);
            due("film(" + bad + ")", x.film(0, bad, 0, 0), BAD);
            due("seen(" + bad + ")", x.seen(0, bad, 0, 0, 1), BAD);
            due("copy(" + bad + ")", x.copy(bad, 0, 0, 0, 1), BAD);
            due("copy to " + bad, x.copy(0, 0, bad, 0, 1), BAD);
        }
        for (int sheet = 0; sheet < 4; sheet++) {
            due("each has its own row", x.item(sheet, sheet, sheet + 9, 0), 1);
            due("drop", x.drop(sheet), sheet + 10);
        }
    }

    private static void nothingAtFirst() {
        PartedInks x = new PartedInks();
        for (int sheet = 0; sheet < 4; sheet++) {
            for (int lane = 0; lane < 4; lane++) {
                due("item", x.item(sheet, lane, 0, 0), NULL);
                due("film", x.film(0, sheet, lane, 0), NULL);
                due("seen", x.seen(0, sheet, lane, 0, 1), NULL);
            }
            due("copy", x.copy(sheet, 0, sheet, 0, 0), NULL);
            due("drop", x.drop(sheet), NULL);
        }
    }

    private static void laneBounds() {
        PartedInks x = new PartedInks();
        for (int lane = 0; lane < 4; lane++) {
            due("sheet", x.sheet(0, lane, 8), 8);
            for (int other = 0; other < 4; other++) {
                due("item", x.item(0, other, 0, 0), other == lane ? 1 : CAST);
                due("film", x.film(0, 0, other, 0), other == lane ? 4 : CAST);
                due("seen", x.seen(0, 0, other, 6, 1), other == lane ? 0 : CAST);
            }
        }
        for (int bad : new int[] {-1, 4, MOST, LEAST}) {
            due("sheet, lane " + bad, x.sheet(0, bad, 1), BAD);
            due("item, lane " + bad, x.item(0, bad, 0, 0), BAD);
            due("film, lane " + bad, x.film(0, 0, bad, 0), BAD);
            due("seen, lane " + bad, x.seen(0, 0, bad, 0, 1), BAD);
        }
        int[] bits = {8, 16, 32};
        for (int lane = 0; lane < 3; lane++) {
            Checks.row(x, 1, lane, 5 + (1L << bits[lane]), 5 + (1L << bits[lane] - 1));
            Checks.dueItem(x, 1, lane, 0, 5);
            Checks.dueNoSet(x, 1, lane, 1, 1);
        }
        Checks.row(x, 1, 3, 5 + (1L << 32), 5 + (1L << 63));
        Checks.dueNoSet(x, 1, 3, 0, 1);
        Checks.dueNoSet(x, 1, 3, 1, 1);
    }

    private static void signs() {
        PartedInks x = new PartedInks();
        for (int lane = 0; lane < 4; lane++) {
            Checks.row(x, 0, lane, -1, 1);
            Checks.dueNoSet(x, 0, lane, 0, 1);
            Checks.dueNoSet(x, 0, lane, 1, 0);
        }
        x.tell(0, 1, 0x0ff);
        Checks.row(x, 0, 0, 1, 0xff);
        due("a byte of 255 is -1, not the look 0x0ff", x.seen(4, 0, 0, 0, 1), 0);
        x.tell(0, 1, 0x07f);
        Checks.row(x, 0, 0, 1, 0x7f);
        due("the greatest byte", x.seen(4, 0, 0, 0, 1), ALL_KINDS);
        x.tell(0, 1, 0x080);
        Checks.row(x, 0, 0, 1, 0x80);
        due("the least byte is not the look 0x080", x.seen(4, 0, 0, 0, 1), 0);
        x.tell(0, 1, 0xfff);
        Checks.row(x, 0, 1, 1, -1, 1, 0xfff);
        due("-1 is not the look 0xfff", x.seen(4, 0, 1, 0, 1), 0);
        due("the look 0xfff as a short", x.seen(4, 0, 1, 2, 1), ALL_KINDS);
    }

    private static void itemBounds() {
        PartedInks x = new PartedInks();
        for (int lane = 0; lane < 4; lane++) {
            due("none", x.sheet(1, lane, 0), 0);
            due("none has no item", x.item(1, lane, 0, 0), INDEX);
            due("24", x.sheet(1, lane, 24), 24);
            due("the last", x.item(1, lane, 23, 9), 1);
            due("none behind it", x.item(1, lane, 24, 9), INDEX);
            Checks.dueItem(x, 1, lane, 23, 9);
            due("25", x.sheet(1, lane, 25), BAD);
            due("it stays", x.drop(1), 24);
        }
        due("one", x.sheet(1, 0, 1), 1);
        due("its only item", x.item(1, 0, 0, 1), 1);
        due("none behind it", x.item(1, 0, 1, 1), INDEX);
    }
}
