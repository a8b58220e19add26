/** For each promise: ordinary inputs, the edges that the document names, and wrong inputs. */
public final class PromiseTests {
    private static final int MOST = Integer.MAX_VALUE;
    private static final int LEAST = Integer.MIN_VALUE;
    private static int wrong = 0;
    private static int checks = 0;
    private static int promise = 0;

    private static void due(String call, long got, long want) {
        checks++;
        if (got != want) {
            wrong++;
            System.out.println("promise " + promise + ": " + call + " answered " + got + ", due is " + want);
        }
    }

    private static int text(PartedInks x, String letters) {
        for (char letter : letters.toCharArray()) {
            x.type(letter);
        }
        return x.draw();
    }

    private static PartedInks drawn(String letters) {
        PartedInks x = new PartedInks();
        text(x, letters);
        return x;
    }

    /** The sets of all places, line by line, in one text. */
    private static String sets(PartedInks x) {
        StringBuilder all = new StringBuilder();
        for (int y = 0; y < x.count(1); y++) {
            for (int k = 0; k < x.count(0); k++) {
                all.append(k > 0 ? "," : y > 0 ? "/" : "").append(x.place(k, y, 0));
            }
        }
        return all.toString();
    }

    private static void dueSets(PartedInks x, String want) {
        checks++;
        String got = sets(x);
        if (!got.equals(want)) {
            wrong++;
            System.out.println("promise " + promise + ": the drawing is " + got + ", due is " + want);
        }
    }

    public static void main(String[] args) {
        newObject();
        inks();
        lookOfSets();
        places();
        areas();
        typed();
        drawnTexts();
        counted();
        told();
        ordered();
        putPlaces();
        filled();
        grown();
        sized();
        drifted();
        undone();
        seeded();
        gapsAside();
        printedAside();
        failed();
        images();
        restored();
        seenKinds();
        filmed();
        sheets();
        dropped();
        items();
        copied();
        System.out.println(checks + " checks, " + wrong + " wrong");
        if (wrong != 0) {
            System.exit(1);
        }
    }

    private static void newObject() {
        promise = 1;
        PartedInks x = new PartedInks();
        int[] counts = {4, 3, 1234, 1, 1, 0, -4, 0, 120, 1234, 1234, 0, 0};
        for (int what = 0; what < counts.length; what++) {
            due("count(" + what + ")", x.count(what), counts[what]);
        }
        int[] tones = {0xff0, 0xf0f, 0x0ff, 0x888, 0x444};
        for (int ink = 0; ink < 5; ink++) {
            due("kind", x.ink(ink, 0), 0);
            due("tone", x.ink(ink, 1), tones[ink]);
            due("place in the order", x.ink(ink, 2), ink);
        }
        dueSets(x, "0,0,0,0/0,0,0,0/0,0,0,0");
        due("the draw", x.seed(1), 1);
        due("undo()", x.undo(), PartedInks.NONE);
        due("restore()", x.restore(), PartedInks.NONE);
        for (int sheet = 0; sheet < 4; sheet++) {
            due("drop", x.drop(sheet), PartedInks.NULL);
        }
        due("an empty tape", x.type('a'), 1);
        PartedInks other = new PartedInks();
        other.put(0, 0, 5);
        due("another object", x.place(0, 0, 0), 0);
    }

    private static void inks() {
        promise = 2;
        PartedInks x = drawn("a(ab)./2bc");
        due("ink(0, 4)", x.ink(0, 4), 2);
        due("ink(1, 4)", x.ink(1, 4), 3);
        due("ink(2, 4)", x.ink(2, 4), 1);
        due("ink(4, 4)", x.ink(4, 4), 0);
        x.tell(0, 3, 0xfe0);
        due("metal kind", x.ink(0, 0), 3);
        due("metal tone", x.ink(0, 1), 0xfe0);
        due("metal dark alone", x.ink(0, 3), 45 - 15 - 15 - 1);
        x.tell(1, 2, 0x123);
        due("milky dark alone", x.ink(1, 3), 45 - 1 - 2 - 3);
        x.tell(2, 1, 0x456);
        due("opaque dark alone", x.ink(2, 3), 45 - 4 - 5 - 6);
        x.order(30142);
        int[] at = {1, 2, 4, 0, 3};
        for (int ink = 0; ink < 5; ink++) {
            due("ink(" + ink + ", 2)", x.ink(ink, 2), at[ink]);
        }
        due("lines that went", drawn("a/a").size(1, 1), 2);
        PartedInks y = drawn("3a/3a");
        y.size(0, 2);
        due("places that went", y.ink(0, 4), 4);
        int[] bad = {-1, 5, MOST, LEAST};
        for (int v : bad) {
            due("no such ink", x.ink(v, 0), PartedInks.BAD);
            due("no such what", x.ink(0, v), PartedInks.BAD);
        }
    }

    private static void lookOfSets() {
        promise = 3;
        PartedInks x = new PartedInks();
        due("none", x.set(0, 0), 0xfff);
        due("none dark", x.set(0, 1), 0);
        due("clear over clear", x.set(24, 0), 0x222);
        due("dark", x.set(24, 1), 39);
        due("alike", x.set(7, 2), 4);
        due("alike, other", x.set(24, 2), 1);
        due("places", x.set(0, 3), 12);
        x.tell(3, 1, 0x9ab);
        due("opaque hides", x.set(8 + 1, 0), 0x9ab);
        due("clear over opaque", x.set(8 + 16, 0), 0x222);
        x.tell(3, 3, 0x9af);
        due("metal", x.set(8 + 7, 0), 0xabf);
        x.tell(3, 2, 0x9ab);
        due("milky over clear", x.set(8 + 1, 0), 0x9a5);
        due("milky over white", x.set(8, 0), 0x9ab);
        x.order(30124);
        due("clear over milky", x.set(8 + 1, 0), 0x9a0);
        PartedInks y = drawn("a2(ab)b");
        due("places of just that set", y.set(1, 3), 1);
        due("places of just that set", y.set(3, 3), 2);
        due("places of no set", y.set(0, 3), 0);
        due("places of a set that isn't drawn", y.set(4, 3), 0);
        int[] bad = {-1, 32, MOST, LEAST};
        for (int v : bad) {
            due("no such set", x.set(v, 0), PartedInks.BAD);
            due("no such what", x.set(0, v), PartedInks.BAD);
        }
        due("no such what", x.set(0, 4), PartedInks.BAD);
    }

    private static void places() {
        promise = 4;
        PartedInks x = drawn("ab./.ba");
        due("set", x.place(1, 0, 0), 2);
        due("set", x.place(2, 1, 0), 1);
        due("look", x.place(0, 0, 1), 0xff0);
        due("look of none", x.place(2, 0, 1), 0xfff);
        int[] numbers = {0, 1, 2, 3, 1, 4};
        for (int k = 0; k < 6; k++) {
            due("area", x.place(k % 3, k / 3, 2), numbers[k]);
        }
        int[] bad = {-1, 3, MOST, LEAST};
        for (int v : bad) {
            due("no such x", x.place(v, 0, 0), PartedInks.BAD);
            due("no such y", x.place(0, v, 0), PartedInks.BAD);
            due("no such what", x.place(0, 0, v), PartedInks.BAD);
        }
        due("below the last line", x.place(0, 2, 0), PartedInks.BAD);
    }

    private static void areas() {
        promise = 5;
        PartedInks x = drawn("3a/.ba/a2b");
        // 0: the a's above, 1: none at the left, 2: the b's, 3: the a below
        int[][] want = {{1, 4, 2, 0, 0, 0}, {0, 1, 3, 0, 1, 2}, {2, 3, 3, 1, 1, 1}, {1, 1, 2, 0, 2, 3}};
        for (int area = 0; area < 4; area++) {
            for (int what = 0; what < 6; what++) {
                due("area(" + area + ", " + what + ")", x.area(area, what), want[area][what]);
            }
        }
        PartedInks ring = drawn("3a/a.a/3a");
        due("a ring", ring.area(0, 1), 8);
        due("a neighbour is counted once", ring.area(0, 2), 1);
        due("what is inside", ring.area(1, 2), 1);
        PartedInks snake = drawn("3b/.2b/b../3b");
        due("areas that touch by corners alone", snake.count(3), 4);
        due("alone", drawn("a").area(0, 2), 0);
        PartedInks alike = new PartedInks();
        text(alike, "ab");
        alike.tell(1, 0, 0xff0);
        due("sets are the same, not looks", alike.count(3), 2);
        PartedInks many = drawn("abababab/babababa/abababab/babababa/abababab/babababa");
        due("as many areas as places", many.count(3), 48);
        due("the last", many.area(47, 5), 47);
        due("the last x", many.area(47, 3), 7);
        due("the last y", many.area(47, 4), 5);
        due("neighbours inside", many.area(9, 2), 4);
        due("no such area", many.area(48, 0), PartedInks.BAD);
        int[] bad = {-1, 6, MOST, LEAST};
        for (int v : bad) {
            due("no such area", x.area(v, 0), PartedInks.BAD);
            due("no such what", x.area(0, v), PartedInks.BAD);
        }
        due("no such area", x.area(4, 0), PartedInks.BAD);
    }

    private static void typed() {
        promise = 6;
        PartedInks x = new PartedInks();
        int[] bad = {31, 127, -1, 0, 128, MOST, LEAST};
        for (int v : bad) {
            due("no letter", x.type(v), PartedInks.BAD);
        }
        due("the first letter of all", x.type(32), 1);
        due("the last letter of all", x.type(126), 2);
        for (int k = 3; k <= 100; k++) {
            due("letter " + k, x.type('a'), k);
        }
        due("full", x.type('a'), PartedInks.FULL);
        due("bad ahead of full", x.type(31), PartedInks.BAD);
        due("full still", x.type('a'), PartedInks.FULL);
        due("fault of the second", x.draw(), -21);
        due("empty again", x.type('a'), 1);
    }

    private static void drawnTexts() {
        promise = 7;
        Object[][] texts = {
            {"", -20}, {"   ", -23}, {"/", -20}, {"a", 1}, {" a ", 1}, {"8a", 8}, {"8a/8b/8c/8d/8e/8.", 48},
            {"a/a/a/a/a/a", 6}, {"a/a/a/a/a/a/", -31}, {"a/a/a/a/a/a/a", -31}, {"a/a/a/a/a/a a", -32},
            {"0a", -20}, {"9a", -20}, {"1a", 1}, {"22a", -21}, {"2", -21}, {"2 ", -22}, {"2/", -21}, {"2 a", 2},
            {"f", -20}, {"A", -20}, {"`", -20}, {")", -20}, {"(", -21}, {"()", -21}, {"( )", -22}, {"(a", -22},
            {"(a ", -23}, {"(a.)", -22}, {"(2a)", -21}, {"((a))", -21}, {"(aabb)", 1}, {"( a b )", 1}, {"3(ab)", 3},
            {"(a/b)", -22}, {"(f)", -21}, {"4a4b", 8}, {"4a5b", -22}, {"8a1b", -22}, {"8a2", -22}, {"8a2x", -22},
            {"8a(", -22}, {"8a(x", -22}, {"8ax", -22}, {"8a/8a", 16}, {"8a/", -23}, {"8a //", -24}, {"ab/3x", -23},
            {"ab/(x", -24}, {"ab/a(x", -25}, {"ab/2(x", -25}, {"ab/ab(x", -25}, {"ab/a/ab", -24}, {"ab/a", -24},
            {"ab/a  ", -26}, {"ab/ab/", -26}, {"ab//ab", -23}, {"a b / 2 . ", 4}, {"a-", -21}, {"2.b/3b", 6},
            {"2.b/4b", -24}, {"2.b/2b2b", -26}, {"2.b/2b 2 b", -27}};
        for (Object[] row : texts) {
            PartedInks x = new PartedInks();
            x.put(3, 2, 9);
            int want = (Integer) row[1];
            due("'" + row[0] + "'", text(x, (String) row[0]), want);
            due("the tape is empty behind '" + row[0] + "'", x.type('a'), 1);
            due("what may be undone behind '" + row[0] + "'", x.count(12), want > 0 ? 0 : 1);
            if (want < 0) {
                dueSets(x, "0,0,0,0/0,0,0,0/0,0,0,9");
            } else {
                due("places of '" + row[0] + "'", x.count(0) * x.count(1), want);
            }
        }
        dueSets(drawn("2.(ea)b / c 3 ( de ) "), "0,0,17,2/4,24,24,24");
        PartedInks x = drawn("8a/8a/8a/8a/8a/8a");
        text(x, "b");
        x.size(0, 2);
        x.size(1, 2);
        dueSets(x, "2,0/0,0");
        PartedInks longest = new PartedInks();
        for (int k = 0; k < 99; k++) {
            longest.type(' ');
        }
        longest.type('e');
        due("99 blanks and a letter", longest.draw(), 1);
        for (int k = 0; k < 100; k++) {
            longest.type(' ');
        }
        due("100 blanks", longest.draw(), -120);
        longest.type('(');
        for (int k = 1; k < 100; k++) {
            longest.type('a');
        }
        due("no end of a set", longest.draw(), -120);
        PartedInks kept = new PartedInks();
        kept.tell(0, 1, 5);
        kept.order(43210);
        kept.seed(77);
        text(kept, "ab");
        due("inks stay", kept.ink(0, 1), 5);
        due("the order stays", kept.count(2), 43210);
        due("the draw stays", kept.seed(1), 77);
        due("undo()", kept.undo(), PartedInks.NONE);
    }

    private static void counted() {
        promise = 8;
        PartedInks x = drawn("3a2b./2a(ab)2bc/2e(cd)3c");
        int[] counts = {6, 3, 1234, 7, 7, 31, 22, 4, 120, 1234, 1234, 31, 0};
        for (int what = 0; what < counts.length; what++) {
            due("count(" + what + ")", x.count(what), counts[what]);
        }
        looksAndFew();
        worst();
        ordersAlike();
        PartedInks dark = new PartedInks();
        dark.tell(4, 1, 0xfff);
        dark.tell(1, 3, 0xfff);
        due("by dark, like ones by number", dark.count(10), 14023);
        due("the order itself stays", dark.count(2), 1234);
        int[] bad = {-1, 13, MOST, LEAST};
        for (int v : bad) {
            due("no such what", x.count(v), PartedInks.BAD);
        }
    }

    private static void looksAndFew() {
        PartedInks x = drawn("(abc)(abcd)(abce).");
        due("unlike looks", x.count(4), 2);
        due("few", x.count(5), 7);
        x.tell(4, 1, 0);
        due("one ink alone", x.count(5), 16);
        x.tell(3, 1, 0);
        due("of like ones the least", x.count(5), 8);
        PartedInks y = drawn("a");
        y.tell(1, 0, 0xff0);
        due("the least one that looks so", y.count(5), 1);
        text(y, "b");
        due("another one that looks so", y.count(5), 1);
        y.tell(0, 0, 0xfff);
        due("none other looks so", y.count(5), 2);
        y.tell(1, 0, 0xfff);
        due("white as the paper", y.count(5), 0);
        due("inks that are drawn", y.count(11), 2);
    }

    private static void worst() {
        due("nothing drawn", drawn("..").count(6), PartedInks.NONE);
        due("nothing drawn", drawn("..").count(7), 0);
        PartedInks one = drawn("c");
        due("one place", one.count(6), 200);
        due("one gap", one.count(7), 1);
        PartedInks line = drawn("4d");
        due("a line", line.count(6), 300);
        due("a line has gaps", line.count(7), 4);
        PartedInks over = drawn("2(ab)");
        due("one lies over the other", over.count(6), PartedInks.NONE);
        due("no gap", over.count(7), 0);
        PartedInks right = drawn("ba/ba/ba");
        due("up and left, of like ones the first", right.count(6), 0);
        PartedInks corner = drawn("a2(ab)/3(ab)");
        due("the corner's place is bare", corner.count(6), 2);
    }

    private static void ordersAlike() {
        PartedInks x = drawn("(ab)");
        x.tell(1, 1, 0x123);
        due("opaque behind clear", x.count(8), 60);
        due("the first", x.count(9), 1234);
        x.order(43210);
        due("clear behind opaque", x.count(8), 60);
        due("the first", x.count(9), 10234);
        PartedInks five = drawn("(abcde)");
        for (int ink = 0; ink < 5; ink++) {
            five.tell(ink, 1, 0x111 * ink);
        }
        five.order(43210);
        due("a last", five.count(8), 24);
        due("the first", five.count(9), 12340);
    }

    private static void told() {
        promise = 9;
        PartedInks x = new PartedInks();
        due("kind alone", x.tell(0, 1, 0xff0), 1);
        due("tone alone", x.tell(0, 1, 0xff1), 1);
        due("it is so", x.tell(0, 1, 0xff1), PartedInks.NOT);
        due("kind", x.ink(0, 0), 1);
        due("tone", x.ink(0, 1), 0xff1);
        due("others stay", x.ink(1, 1), 0xf0f);
        due("the last of all", x.tell(4, 3, 4095), 1);
        due("the first of all", x.tell(4, 0, 0), 1);
        due("undone", x.count(12), 4);
        int[] bad = {-1, 4096, MOST, LEAST};
        for (int v : bad) {
            due("no ink", x.tell(v, 0, 0), PartedInks.BAD);
            due("no kind", x.tell(0, v, 0), PartedInks.BAD);
            due("no tone", x.tell(0, 0, v), PartedInks.BAD);
        }
        due("no ink", x.tell(5, 0, 0), PartedInks.BAD);
        due("no kind", x.tell(0, 4, 0), PartedInks.BAD);
        due("nothing more to be undone", x.count(12), 4);
    }

    private static void ordered() {
        promise = 10;
        PartedInks x = new PartedInks();
        due("it is so", x.order(1234), PartedInks.NOT);
        due("what it was", x.order(43210), 1234);
        due("what it was", x.order(20413), 43210);
        due("it is", x.count(2), 20413);
        due("it is so", x.order(20413), PartedInks.NOT);
        due("undone", x.count(12), 2);
        int[] bad = {-1, 0, 1, 1235, 11234, 12345, 43211, 44210, 101234, 143210, -1234, 98765, MOST, LEAST};
        for (int v : bad) {
            due("no order " + v, x.order(v), PartedInks.BAD);
        }
        due("it stays", x.count(2), 20413);
        due("undone", x.count(12), 2);
    }

    private static void putPlaces() {
        promise = 11;
        PartedInks x = new PartedInks();
        due("it has it", x.put(0, 0, 0), PartedInks.NOT);
        due("what it had", x.put(3, 2, 31), 0);
        due("what it had", x.put(3, 2, 7), 31);
        due("it has it", x.put(3, 2, 7), PartedInks.NOT);
        dueSets(x, "0,0,0,0/0,0,0,0/0,0,0,7");
        due("undone", x.count(12), 2);
        int[] bad = {-1, 4, 8, MOST, LEAST};
        for (int v : bad) {
            due("no x", x.put(v, 0, 1), PartedInks.BAD);
            due("no y", x.put(0, v, 1), PartedInks.BAD);
        }
        due("no y", x.put(0, 3, 1), PartedInks.BAD);
        due("no set", x.put(0, 0, 32), PartedInks.BAD);
        due("no set", x.put(0, 0, -1), PartedInks.BAD);
        due("bad ahead of not", x.put(4, 0, 0), PartedInks.BAD);
        due("undone", x.count(12), 2);
    }

    private static void filled() {
        promise = 12;
        PartedInks x = drawn("2ab/a2b/2ba");
        due("it has that set", x.fill(0, 1), PartedInks.NOT);
        due("places", x.fill(0, 4), 3);
        dueSets(x, "4,4,2/4,2,2/2,2,1");
        due("places", x.fill(1, 1), 5);
        dueSets(x, "4,4,1/4,1,1/1,1,1");
        due("areas", x.count(3), 2);
        due("places", x.fill(1, 0), 6);
        due("undone", x.count(12), 3);
        due("no area", x.fill(2, 0), PartedInks.BAD);
        due("no area", x.fill(-1, 0), PartedInks.BAD);
        due("no area", x.fill(MOST, 0), PartedInks.BAD);
        due("no set", x.fill(0, 32), PartedInks.BAD);
        due("no set", x.fill(0, -1), PartedInks.BAD);
        due("undone", x.count(12), 3);
    }

    private static void grown() {
        promise = 13;
        due("none", new PartedInks().grow(), PartedInks.NOT);
        due("beside none", drawn("a./.b").grow(), PartedInks.NOT);
        due("an ink in common", drawn("(ab)(bc)").grow(), PartedInks.NOT);
        PartedInks x = drawn("ab/cd");
        due("like ones: the first into the other", x.grow(), 3);
        dueSets(x, "1,3/5,14");
        due("all have inks in common", x.grow(), PartedInks.NOT);
        due("undone", x.count(12), 1);
        PartedInks back = drawn("da");
        due("the lighter into the darker", back.grow(), 1);
        dueSets(back, "9,1");
        PartedInks below = drawn("e/d");
        due("the lighter below", below.grow(), 1);
        dueSets(below, "24/8");
        PartedInks row = drawn("dae");
        due("as they are ahead of it all", row.grow(), 2);
        dueSets(row, "9,1,17");
        PartedInks chain = drawn("abc");
        due("no farther than one place", chain.grow(), 2);
        dueSets(chain, "1,3,6");
        PartedInks dark = drawn("ab");
        dark.tell(0, 1, 0);
        due("by the dark that it has now", dark.grow(), 1);
        dueSets(dark, "3,2");
    }

    private static void sized() {
        promise = 14;
        PartedInks x = drawn("abc/cab");
        due("it is so", x.size(0, 3), PartedInks.NOT);
        due("it is so", x.size(1, 2), PartedInks.NOT);
        due("narrower", x.size(0, 2), 3);
        dueSets(x, "1,2/4,1");
        due("wider", x.size(0, 4), 2);
        dueSets(x, "1,2,0,0/4,1,0,0");
        due("lower", x.size(1, 1), 2);
        due("higher", x.size(1, 3), 1);
        dueSets(x, "1,2,0,0/0,0,0,0/0,0,0,0");
        due("widest", x.size(0, 8), 4);
        due("highest", x.size(1, 6), 3);
        due("undone", x.count(12), 6);
        due("narrowest", x.size(0, 1), 8);
        due("lowest", x.size(1, 1), 6);
        int[] bad = {0, -1, 9, MOST, LEAST};
        for (int v : bad) {
            due("no width", x.size(0, v), PartedInks.BAD);
            due("no height", x.size(1, v), PartedInks.BAD);
        }
        due("no height", x.size(1, 7), PartedInks.BAD);
        due("no what", x.size(2, 3), PartedInks.BAD);
        due("no what", x.size(-1, 3), PartedInks.BAD);
    }

    private static void drifted() {
        promise = 15;
        PartedInks x = new PartedInks();
        due("areas", x.drift(1), 2);
        due("the draw", x.seed(1103527590), 1103527590);
        dueSets(x, "0,0,0,0/0,0,7,0/0,0,0,0");
        due("areas", x.drift(1), 3);
        dueSets(x, "0,0,0,0/0,0,7,0/0,0,25,0");
        due("the draw", x.seed(377401575), 377401575);
        due("undone", x.count(12), 2);
        due("many turns", x.drift(40) > 0 ? 1 : 0, 1);
        due("undone", x.count(12), 6);
        PartedInks small = drawn("e");
        due("one place", small.drift(3), 1);
        due("undone, also what changes nothing", small.count(12), 3);
        PartedInks still = new PartedInks();
        still.drift(1);
        still.seed(1);
        still.drift(1);
        due("a turn that changes nothing", still.count(12), 2);
        due("the draw changes", still.seed(0), 1103527590);
        PartedInks greatest = new PartedInks();
        greatest.seed(MOST);
        greatest.drift(1);
        due("31 bits", greatest.seed(0), (MOST * 1103515245L + 12345L) % 2147483648L);
        int[] bad = {0, -1, 41, MOST, LEAST};
        for (int v : bad) {
            due("no turns", x.drift(v), PartedInks.BAD);
        }
    }

    private static void undone() {
        promise = 16;
        PartedInks x = new PartedInks();
        x.tell(0, 1, 7);
        x.order(43210);
        x.put(0, 0, 3);
        x.fill(1, 8);
        x.grow();
        x.size(0, 2);
        due("known", x.count(12), 6);
        due("size", x.undo(), 5);
        dueSets(x, "11,8,8,8/8,8,8,8/8,8,8,8");
        due("grow", x.undo(), 4);
        dueSets(x, "3,8,8,8/8,8,8,8/8,8,8,8");
        due("fill", x.undo(), 3);
        dueSets(x, "3,0,0,0/0,0,0,0/0,0,0,0");
        due("put", x.undo(), 2);
        dueSets(x, "0,0,0,0/0,0,0,0/0,0,0,0");
        due("order", x.undo(), 1);
        due("order", x.count(2), 1234);
        due("tell", x.undo(), 0);
        due("kind", x.ink(0, 0), 0);
        due("tone", x.ink(0, 1), 0xff0);
        due("none", x.undo(), PartedInks.NONE);
        PartedInks many = new PartedInks();
        for (int set = 1; set <= 8; set++) {
            many.put(0, 0, set);
        }
        for (int left = 5; left >= 0; left--) {
            due("left", many.undo(), left);
            due("set", many.place(0, 0, 0), left + 2);
        }
        due("older ones are lost", many.undo(), PartedInks.NONE);
        due("and what they did stays", many.place(0, 0, 0), 2);
        PartedInks drift = new PartedInks();
        drift.drift(3);
        drift.undo();
        drift.undo();
        due("the draw, turn by turn", drift.seed(5), 1103527590);
        drift.put(0, 0, 9);
        drift.seed(6);
        drift.undo();
        due("whatever was told since", drift.seed(8), 5);
    }

    private static void seeded() {
        promise = 17;
        PartedInks x = new PartedInks();
        due("at first", x.seed(0), 1);
        due("none", x.seed(MOST), 0);
        due("the greatest", x.seed(3), MOST);
        due("bad", x.seed(-1), PartedInks.BAD);
        due("bad", x.seed(LEAST), PartedInks.BAD);
        due("it stays", x.seed(3), 3);
        due("the same", x.seed(3), 3);
        due("nothing to be undone", x.count(12), 0);
        PartedInks other = new PartedInks();
        other.seed(377401575);
        x.drift(1);
        x.seed(377401575);
        other.drift(5);
        x.undo();
        x.seed(377401575);
        x.drift(5);
        due("the same seed, the same drawing", sets(x).equals(sets(other)) ? 1 : 0, 1);
    }

    private static void gapsAside() {
        promise = 18;
        PartedInks x = drawn("aab/.(ab)b");
        due("where it lies", x.gaps(0, 0, 0), 0);
        due("to the right", x.gaps(0, 1, 0), 1);
        due("to the left", x.gaps(0, -1, 0), 1);
        due("down", x.gaps(0, 0, 1), 2);
        due("up", x.gaps(0, 0, -1), 1);
        due("down and right", x.gaps(0, 1, 1), 2);
        due("b to the left", x.gaps(1, -1, 0), 2);
        due("b up", x.gaps(1, 0, -1), 1);
        due("an ink that isn't drawn", x.gaps(4, 1, 1), 0);
        due("nothing changes", x.count(12), 0);
        int[] bad = {-2, 2, MOST, LEAST};
        for (int v : bad) {
            due("no dx", x.gaps(0, v, 0), PartedInks.BAD);
            due("no dy", x.gaps(0, 0, v), PartedInks.BAD);
        }
        due("no ink", x.gaps(5, 0, 0), PartedInks.BAD);
        due("no ink", x.gaps(-1, 0, 0), PartedInks.BAD);
    }

    private static void printedAside() {
        promise = 19;
        PartedInks x = drawn("aab/.(ab)b");
        int[] right = {0, 1, 3, 0, 2, 3};
        int[] up = {0, 1, 2, 0, 2, 2};
        for (int k = 0; k < 6; k++) {
            due("to the right", x.aside(0, 1, 0, k % 3, k / 3), right[k]);
            due("up", x.aside(0, 0, -1, k % 3, k / 3), up[k]);
        }
        due("where none is drawn", x.aside(0, 0, 1, 0, 1), 1);
        due("down and left", x.aside(1, -1, 1, 1, 1), 3);
        due("where it lies", x.aside(1, 0, 0, 1, 1), 3);
        int[] bad = {-2, 2, MOST, LEAST};
        for (int v : bad) {
            due("no dx", x.aside(0, v, 0, 0, 0), PartedInks.BAD);
            due("no dy", x.aside(0, 0, v, 0, 0), PartedInks.BAD);
        }
        due("no ink", x.aside(5, 0, 0, 0, 0), PartedInks.BAD);
        due("no ink", x.aside(-1, 0, 0, 0, 0), PartedInks.BAD);
        due("no x", x.aside(0, 0, 0, 3, 0), PartedInks.BAD);
        due("no x", x.aside(0, 0, 0, -1, 0), PartedInks.BAD);
        due("no y", x.aside(0, 0, 0, 0, 2), PartedInks.BAD);
        due("no y", x.aside(0, 0, 0, 0, -1), PartedInks.BAD);
    }

    private static void dueFraction(String drawing, int c, int above, int below) {
        PartedInks x = drawn(drawing);
        due(drawing + " by " + c + ", above", x.fail(c, 0), above);
        due(drawing + " by " + c + ", below", x.fail(c, 1), below);
    }

    private static void failed() {
        promise = 20;
        dueFraction("..", 10, 1, 1);
        dueFraction("a", 2, 4, 5);
        dueFraction("a", 0, 1, 1);
        dueFraction("a", 10, 0, 1);
        dueFraction("ab", 5, 1, 4);
        dueFraction("(ab)", 5, 3, 4);
        dueFraction("(ab)a", 3, 7, 10);
        dueFraction("(ab)(bc)", 1, 981, 1000);
        dueFraction("abcde", 3, 16807, 100000);
        dueFraction("(abcde)", 3, 99757, 100000);
        dueFraction("(abcde)", 10, 0, 1);
        PartedInks x = drawn("a");
        due("no c", x.fail(-1, 0), PartedInks.BAD);
        due("no c", x.fail(11, 0), PartedInks.BAD);
        due("no what", x.fail(5, 2), PartedInks.BAD);
        due("no what", x.fail(5, -1), PartedInks.BAD);
        due("no what", x.fail(MOST, LEAST), PartedInks.BAD);
    }

    private static PartedInks worked() {
        PartedInks x = drawn("abc");
        x.tell(2, 3, 0x123);
        x.order(20413);
        x.put(1, 0, 17);
        x.seed(99);
        return x;
    }

    private static void images() {
        promise = 21;
        PartedInks x = worked();
        due("image()", x.image(), 1);
        due("nothing changes", x.count(12), 3);
        dueSets(x, "1,17,4");
        x.put(0, 0, 0);
        due("the newer one", x.image(), 1);
        x.put(0, 0, 5);
        x.restore();
        dueSets(x, "0,17,4");
        due("what may be undone", x.count(12), 4);
        PartedInks first = new PartedInks();
        due("of a new object", first.image(), 1);
        first.drift(9);
        first.restore();
        dueSets(first, "0,0,0,0/0,0,0,0/0,0,0,0");
        due("the draw", first.seed(1), 1);
    }

    private static void restored() {
        promise = 22;
        PartedInks x = worked();
        due("there is none", x.restore(), PartedInks.NONE);
        x.image();
        x.drift(20);
        x.tell(0, 1, 1);
        x.type('c');
        x.sheet(1, 2, 3);
        for (int time = 0; time < 2; time++) {
            due("restore()", x.restore(), 1);
            dueSets(x, "1,17,4");
            due("kind", x.ink(2, 0), 3);
            due("tone", x.ink(2, 1), 0x123);
            due("order", x.count(2), 20413);
            due("the draw", x.seed(7), 99);
            due("undo", x.undo(), 2);
            dueSets(x, "1,2,4");
            due("undo", x.undo(), 1);
            due("order", x.count(2), 1234);
            due("undo", x.undo(), 0);
            due("tone", x.ink(2, 1), 0x0ff);
            due("a drawing", text(x, "b"), time == 0 ? 2 : 1);
        }
        due("sheets stay", x.drop(1), 3);
        PartedInks full = new PartedInks();
        full.drift(10);
        full.image();
        String then = sets(full);
        full.drift(10);
        full.restore();
        due("as it was", sets(full).equals(then) ? 1 : 0, 1);
        due("six may be undone", full.undo(), 5);
    }

    private static void items(PartedInks x, int sheet, int lane, long... items) {
        x.sheet(sheet, lane, items.length);
        for (int k = 0; k < items.length; k++) {
            x.item(sheet, lane, k, items[k]);
        }
    }

    private static void seenKinds() {
        promise = 23;
        PartedInks x = new PartedInks();
        items(x, 0, 2, 1, 0xff0, 3, 0xf07, 3, 0xf00, 3, 0xf0f, 3, 0xf1f, 4, 0x0ff, 32, 0, -1, 0);
        due("alone", x.seen(0, 0, 2, 0, 1), 7);
        due("milky", x.seen(1, 0, 2, 2, 1), 4);
        due("clear", x.seen(1, 0, 2, 4, 1), 1);
        due("opaque", x.seen(1, 0, 2, 6, 1), 2);
        due("metal", x.seen(1, 0, 2, 8, 1), 8);
        due("two pairs", x.seen(1, 0, 2, 0, 2), 4);
        due("not both", x.seen(1, 0, 2, 2, 2), 0);
        due("without the ink, right", x.seen(1, 0, 2, 10, 1), 15);
        due("without the ink, wrong", x.seen(2, 0, 2, 2, 1), 0);
        due("nothing is told", x.ink(1, 0), 0);
        due("a set above all", x.seen(0, 0, 2, 12, 1), PartedInks.NOT);
        due("a set below all", x.seen(0, 0, 2, 14, 1), PartedInks.NOT);
        due("the last of the pairs", x.seen(0, 0, 2, 4, 6), PartedInks.NOT);
        due("beyond the end", x.seen(0, 0, 2, 15, 1), PartedInks.INDEX);
        due("beyond the end ahead of not", x.seen(0, 0, 2, 12, 3), PartedInks.INDEX);
        due("ahead of the first", x.seen(0, 0, 2, -1, 1), PartedInks.INDEX);
        due("far off", x.seen(0, 0, 2, MOST, 6), PartedInks.INDEX);
        due("cast ahead of index", x.seen(0, 0, 3, 99, 1), PartedInks.CAST);
        due("null", x.seen(0, 1, 0, -1, 1), PartedInks.NULL);
        due("bad ahead of null", x.seen(0, 1, 0, 0, 7), PartedInks.BAD);
        due("no pairs", x.seen(0, 0, 2, 0, 0), PartedInks.BAD);
        due("no ink", x.seen(5, 0, 2, 0, 1), PartedInks.BAD);
        due("no ink", x.seen(-1, 0, 2, 0, 1), PartedInks.BAD);
        due("no sheet", x.seen(0, 4, 2, 0, 1), PartedInks.BAD);
        due("no sheet", x.seen(0, -1, 2, 0, 1), PartedInks.BAD);
        due("no lane", x.seen(0, 0, 4, 0, 1), PartedInks.BAD);
        due("no lane", x.seen(0, 0, -1, 0, 1), PartedInks.BAD);
        items(x, 1, 3, 1, 0xff0 + (1L << 32), 1 + (1L << 32), 0xff0);
        due("a look is compared whole", x.seen(0, 1, 3, 0, 1), 0);
        due("a set is looked at whole", x.seen(0, 1, 3, 2, 1), PartedInks.NOT);
        x.tell(3, 0, 0);
        items(x, 2, 0, 8, 0, 8, 0x111, 31, 0);
        due("bytes", x.seen(3, 2, 0, 0, 1), 7);
        due("bytes have a sign", x.seen(3, 2, 0, 2, 1), 0);
        due("by the order", x.seen(3, 2, 0, 4, 1), 15);
        x.order(12403);
        due("by the order", x.seen(3, 2, 0, 4, 1), 7);
        x.tell(3, 0, 0x00f);
        due("by the tone", x.seen(3, 2, 0, 4, 1), 1);
    }

    private static void filmed() {
        promise = 24;
        PartedInks x = drawn("ab./cde");
        x.sheet(0, 1, 5);
        due("film", x.film(1, 0, 1, 2), 3);
        items(x, 1, 1, 4, 0, 8, 0, 16, 0);
        for (int k = 0; k < 3; k++) {
            x.copy(0, 2 + k, 1, 2 * k + 1, 1);
        }
        due("as seen", x.seen(0, 1, 1, 0, 3), 15);
        due("ahead of it", x.copy(0, 0, 1, 1, 1), 1);
        due("nothing came there", x.seen(0, 1, 1, 0, 1), 0);
        due("line 0", x.film(0, 0, 1, 0), 3);
        x.copy(0, 0, 1, 1, 1);
        x.item(1, 1, 0, 1);
        due("as seen", x.seen(4, 1, 1, 0, 1), 15);
        x.sheet(2, 0, 3);
        due("bytes", x.film(0, 2, 0, 0), 3);
        items(x, 3, 0, 0, 0);
        x.copy(2, 2, 3, 1, 1);
        due("lowest bits, 0xfff is -1", x.seen(0, 3, 0, 0, 1), 0);
        due("no line", x.film(2, 0, 1, 0), PartedInks.BAD);
        due("no line", x.film(-1, 0, 1, 0), PartedInks.BAD);
        due("no sheet", x.film(0, 4, 1, 0), PartedInks.BAD);
        due("no sheet", x.film(0, -1, 1, 0), PartedInks.BAD);
        due("no lane", x.film(0, 0, 4, 0), PartedInks.BAD);
        due("no lane", x.film(0, 0, -1, 0), PartedInks.BAD);
        due("cast ahead of index", x.film(0, 0, 2, -1), PartedInks.CAST);
        due("beyond the end", x.film(0, 0, 1, 3), PartedInks.INDEX);
        due("ahead of the first", x.film(0, 0, 1, -1), PartedInks.INDEX);
        due("far off", x.film(0, 0, 1, MOST), PartedInks.INDEX);
        x.drop(0);
        due("null", x.film(0, 0, 1, -1), PartedInks.NULL);
    }

    private static void sheets() {
        promise = 25;
        PartedInks x = new PartedInks();
        due("none", x.sheet(0, 0, 0), 0);
        due("24", x.sheet(3, 3, 24), 24);
        due("above 24", x.sheet(0, 0, 25), PartedInks.BAD);
        due("far above", x.sheet(0, 0, MOST), PartedInks.BAD);
        due("below 0", x.sheet(0, 0, -1), PartedInks.SIZE);
        due("far below", x.sheet(0, 0, LEAST), PartedInks.SIZE);
        due("bad ahead of size", x.sheet(4, 0, -1), PartedInks.BAD);
        due("no sheet", x.sheet(-1, 0, 1), PartedInks.BAD);
        due("no lane", x.sheet(0, 4, 1), PartedInks.BAD);
        due("no lane", x.sheet(0, -1, -1), PartedInks.BAD);
        due("what is refused changes nothing", x.drop(0), 0);
        items(x, 1, 2, 1, 0xff0);
        due("as told", x.seen(0, 1, 2, 0, 1), 7);
        due("another row", x.sheet(1, 2, 2), 2);
        due("of zeros", x.seen(0, 1, 2, 0, 1), 0);
        x.item(1, 2, 1, 0xfff);
        due("of zeros", x.seen(0, 1, 2, 0, 1), 15);
        x.sheet(1, 0, 2);
        due("another lane", x.item(1, 2, 0, 1), PartedInks.CAST);
        due("another lane", x.item(1, 0, 0, 1), 1);
    }

    private static void dropped() {
        promise = 26;
        PartedInks x = new PartedInks();
        due("nothing", x.drop(2), PartedInks.NULL);
        x.sheet(2, 1, 7);
        due("7", x.drop(2), 7);
        due("nothing", x.drop(2), PartedInks.NULL);
        x.sheet(2, 1, 0);
        due("a row of none", x.drop(2), 0);
        due("nothing", x.item(2, 1, 0, 0), PartedInks.NULL);
        due("no sheet", x.drop(4), PartedInks.BAD);
        due("no sheet", x.drop(-1), PartedInks.BAD);
        due("no sheet", x.drop(MOST), PartedInks.BAD);
    }

    private static void items() {
        promise = 27;
        PartedInks x = new PartedInks();
        x.sheet(0, 0, 2);
        due("first", x.item(0, 0, 0, 0), 1);
        due("last", x.item(0, 0, 1, 5), 1);
        due("beyond", x.item(0, 0, 2, 5), PartedInks.INDEX);
        due("ahead", x.item(0, 0, -1, 5), PartedInks.INDEX);
        due("far", x.item(0, 0, MOST, 5), PartedInks.INDEX);
        due("cast ahead of index", x.item(0, 1, 2, 5), PartedInks.CAST);
        due("null ahead of all", x.item(1, 1, -1, 5), PartedInks.NULL);
        due("no sheet", x.item(4, 0, 0, 5), PartedInks.BAD);
        due("no sheet", x.item(-1, 0, 0, 5), PartedInks.BAD);
        due("no lane", x.item(1, 4, 0, 5), PartedInks.BAD);
        due("no lane", x.item(1, -1, 0, 5), PartedInks.BAD);
        long[] above = {1L << 8, 1L << 16, 1L << 32};
        for (int lane = 0; lane < 3; lane++) {
            items(x, 2, lane, above[lane] + 8, above[lane] * 255, above[lane] / 2 + 8, 0);
            x.tell(3, 0, 0);
            due("lowest bits", x.seen(3, 2, lane, 0, 1), 7);
            due("with a sign", x.seen(3, 2, lane, 2, 1), PartedInks.NOT);
        }
        items(x, 2, 3, above[2] + 8, 0);
        due("longs are whole", x.seen(3, 2, 3, 0, 1), PartedInks.NOT);
    }

    private static void copied() {
        promise = 28;
        PartedInks x = new PartedInks();
        items(x, 0, 1, 1, 0xff0, 2, 0xf0f, 4, 0x0ff);
        x.sheet(1, 1, 4);
        due("to another", x.copy(0, 2, 1, 0, 4), 4);
        due("as told", x.seen(4, 1, 1, 0, 2), 15);
        due("all of it stays", x.seen(4, 0, 1, 0, 3), 15);
        due("the same, down", x.copy(0, 0, 0, 2, 4), 4);
        items(x, 2, 1, 1, 0xff0, 1, 0xff0, 2, 0xf0f);
        due("as if taken ahead", x.seen(4, 0, 1, 0, 3), 15);
        x.tell(2, 1, 0x0ff);
        due("the third pair is b", x.copy(0, 4, 1, 0, 2), 2);
        x.item(1, 1, 0, 2);
        due("the third pair is b", x.seen(4, 1, 1, 0, 1), 15);
        due("the same, up", x.copy(0, 2, 0, 0, 4), 4);
        x.copy(0, 2, 1, 0, 2);
        x.item(1, 1, 0, 2);
        due("as if taken ahead", x.seen(4, 1, 1, 0, 1), 15);
        due("none, at the end", x.copy(0, 6, 1, 4, 0), 0);
        due("none, beyond the end", x.copy(0, 7, 1, 4, 0), PartedInks.INDEX);
        due("none, beyond the other end", x.copy(0, 6, 1, 5, 0), PartedInks.INDEX);
        due("none, ahead", x.copy(0, -1, 1, 0, 0), PartedInks.INDEX);
        due("none, ahead", x.copy(0, 0, 1, -1, 0), PartedInks.INDEX);
        due("too many of the one", x.copy(1, 1, 0, 0, 4), PartedInks.INDEX);
        due("too many of the other", x.copy(0, 0, 1, 1, 4), PartedInks.INDEX);
        due("below 0", x.copy(0, 0, 1, 0, -1), PartedInks.INDEX);
        due("far too many", x.copy(0, 1, 1, 1, MOST), PartedInks.INDEX);
        due("far off", x.copy(0, MOST, 1, 0, 1), PartedInks.INDEX);
        due("null", x.copy(3, 0, 0, 0, -1), PartedInks.NULL);
        due("null", x.copy(0, 0, 3, 0, -1), PartedInks.NULL);
        x.sheet(3, 2, 4);
        due("cast ahead of index", x.copy(0, 0, 3, 0, -1), PartedInks.CAST);
        due("cast of none", x.copy(0, 0, 3, 0, 0), PartedInks.CAST);
        due("no sheet", x.copy(4, 0, 0, 0, 0), PartedInks.BAD);
        due("no sheet", x.copy(-1, 0, 0, 0, 0), PartedInks.BAD);
        due("no sheet", x.copy(0, 0, 4, 0, 0), PartedInks.BAD);
        due("no sheet", x.copy(0, 0, -1, 0, 0), PartedInks.BAD);
        x.drop(1);
        due("bad ahead of null", x.copy(1, 0, 4, 0, 0), PartedInks.BAD);
    }
}
