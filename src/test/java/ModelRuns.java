import java.math.BigInteger;
import java.util.ArrayDeque;
import java.util.ArrayList;
import java.util.Arrays;
import java.util.HashSet;
import java.util.List;
import java.util.Random;
import java.util.Set;
import java.util.TreeSet;

/**
 * Long runs of drawn calls, compared with a second writing of the document that goes other ways where
 * it can: the machine's own exceptions for sheets, all ends of a text for its faults, fractions for odds.
 */
public final class ModelRuns {
    private static final int RUNS = 2000;
    private static final int CALLS = 400;
    private static final int MOST_SHOWN = 10;

    public static void main(String[] args) {
        int wrong = 0;
        for (int run = 0; run < RUNS && wrong < MOST_SHOWN; run++) {
            wrong += run(run);
        }
        System.out.println(RUNS + " runs, " + wrong + " of them wrong");
        if (wrong != 0) {
            System.exit(1);
        }
    }

    private static int run(int seed) {
        Random random = new Random(seed);
        Caller caller = new Caller(random, new PartedInks(), new Model());
        for (int call = 0; call < CALLS; call++) {
            if (!caller.call()) {
                System.out.println("run " + seed + ", call " + call + ": " + caller.told);
                return 1;
            }
        }
        return 0;
    }

    /** Draws calls, and makes each on both. */
    private static final class Caller {
        private static final String[] TEXTS = {"ab/cd", "3a2b./2a(ab)2bc/2e(cd)3c", "8(abcde)/8.", "a.b.c.d.", "(ab)(cd)e",
            "2a2b/2c2d/2e2.", "8a/8b/8c/8d/8e/8.", "ab/abc", "3(a)(b c)/4d", "a/b/c/d/e/./a", "8a2x", "ab/(", "4a 4b / 8c", ""};
        private final Random random;
        private final PartedInks real;
        private final Model model;
        private final ArrayDeque<Integer> toType = new ArrayDeque<>();
        String told = "";

        Caller(Random random, PartedInks real, Model model) {
            this.random = random;
            this.real = real;
            this.model = model;
        }

        /** Mostly low .. high, now and then a number that is outside of these, or far off. */
        private int near(int low, int high) {
            int luck = random.nextInt(60);
            if (luck == 0) {
                return low - 1;
            }
            if (luck == 1) {
                return high + 1;
            }
            if (luck == 2) {
                int[] far = {Integer.MAX_VALUE, Integer.MIN_VALUE, Integer.MAX_VALUE - 1, -7, 1000, 65536};
                return far[random.nextInt(far.length)];
            }
            return low + random.nextInt(high - low + 1);
        }

        private boolean same(String call, long got, long want) {
            told = call + " answered " + got + ", the model " + want;
            return got == want;
        }

        boolean call() {
            if (!toType.isEmpty()) {
                int letter = toType.poll();
                if (letter < 0) {
                    return same("draw()", real.draw(), model.draw());
                }
                return same("type(" + letter + ")", real.type(letter), model.type(letter));
            }
            int luck = random.nextInt(100);
            return luck < 45 ? look() : luck < 75 ? change() : luck < 95 ? sheets() : image();
        }

        private boolean look() {
            int a = near(0, 4);
            int what = near(0, 5);
            int x = near(0, model.now.wide - 1);
            int y = near(0, model.now.high - 1);
            int dx = near(-1, 1);
            int dy = near(-1, 1);
            switch (random.nextInt(9)) {
                case 0: return same("ink(" + a + ", " + what + ")", real.ink(a, what), model.ink(a, what));
                case 1: {
                    int set = near(0, 31);
                    return same("set(" + set + ", " + what + ")", real.set(set, what), model.set(set, what));
                }
                case 2: {
                    int w = near(0, 2);
                    return same("place(" + x + ", " + y + ", " + w + ")", real.place(x, y, w), model.place(x, y, w));
                }
                case 3: {
                    int area = near(0, model.areas().size() - 1);
                    return same("area(" + area + ", " + what + ")", real.area(area, what), model.area(area, what));
                }
                case 4:
                    return same("gaps(" + a + ", " + dx + ", " + dy + ")", real.gaps(a, dx, dy), model.gaps(a, dx, dy));
                case 5:
                    return same("aside(" + a + ", " + dx + ", " + dy + ", " + x + ", " + y + ")",
                        real.aside(a, dx, dy, x, y), model.aside(a, dx, dy, x, y));
                case 6: {
                    int c = near(0, 10);
                    int w = near(0, 1);
                    return same("fail(" + c + ", " + w + ")", real.fail(c, w), model.fail(c, w));
                }
                default: {
                    int w = near(0, 12);
                    return same("count(" + w + ")", real.count(w), model.count(w));
                }
            }
        }

        private boolean change() {
            int x = near(0, model.now.wide - 1);
            int y = near(0, model.now.high - 1);
            int set = near(0, 31);
            switch (random.nextInt(12)) {
                case 0: case 1: return told();
                case 2: return ordered();
                case 3: case 4: return same("put(" + x + ", " + y + ", " + set + ")", real.put(x, y, set), model.put(x, y, set));
                case 5: {
                    int area = near(0, model.areas().size() - 1);
                    return same("fill(" + area + ", " + set + ")", real.fill(area, set), model.fill(area, set));
                }
                case 6: return same("grow()", real.grow(), model.grow());
                case 7: {
                    int what = near(0, 1);
                    int v = near(1, what == 0 ? 8 : 6);
                    return same("size(" + what + ", " + v + ")", real.size(what, v), model.size(what, v));
                }
                case 8: {
                    int n = random.nextInt(3) == 0 ? near(1, 40) : near(1, 3);
                    return same("drift(" + n + ")", real.drift(n), model.drift(n));
                }
                case 9: return same("undo()", real.undo(), model.undo());
                case 10: {
                    int v = random.nextInt(4) == 0 ? near(0, 9) : random.nextInt() & Integer.MAX_VALUE;
                    return same("seed(" + v + ")", real.seed(v), model.seed(v));
                }
                default: return typed();
            }
        }

        private boolean told() {
            int ink = near(0, 4);
            int kind = near(0, 3);
            int[] plain = {0, 0xfff, 0xff0, 0xf0f, 0x0ff, 0x888, 0x444};
            int tone = random.nextBoolean() ? plain[random.nextInt(plain.length)] : near(0, 4095);
            return same("tell(" + ink + ", " + kind + ", " + tone + ")", real.tell(ink, kind, tone), model.tell(ink, kind, tone));
        }

        private boolean ordered() {
            List<Integer> inks = new ArrayList<>(List.of(0, 1, 2, 3, 4));
            java.util.Collections.shuffle(inks, random);
            int figures = 0;
            for (int ink : inks) {
                figures = 10 * figures + ink;
            }
            int asked = random.nextInt(8) == 0 ? figures + random.nextInt(30) - 15 : figures;
            return same("order(" + asked + ")", real.order(asked), model.order(asked));
        }

        /** A text that is right, or one with a letter changed, or letters by chance. */
        private boolean typed() {
            String text = random.nextBoolean() ? TEXTS[random.nextInt(TEXTS.length)] : rightText();
            StringBuilder letters = new StringBuilder(text);
            String all = " ././()abcdef123489 x~";
            for (int k = random.nextInt(3); k > 0; k--) {
                letters.insert(random.nextInt(letters.length() + 1), all.charAt(random.nextInt(all.length())));
            }
            if (random.nextInt(3) == 0 && letters.length() > 0) {
                letters.deleteCharAt(random.nextInt(letters.length()));
            }
            for (char letter : letters.toString().toCharArray()) {
                toType.add((int) letter);
            }
            toType.add(-1);
            return same("type", real.type(near(32, 126) | 128), PartedInks.BAD);
        }

        private String rightText() {
            StringBuilder text = new StringBuilder();
            int wide = 1 + random.nextInt(8);
            int high = 1 + random.nextInt(6);
            for (int y = 0; y < high; y++) {
                text.append(y > 0 ? "/" : "");
                for (int x = 0; x < wide;) {
                    int often = 1 + random.nextInt(wide - x);
                    text.append(often > 1 || random.nextInt(9) == 0 ? "" + often : "").append(random.nextInt(9) == 0 ? " " : "");
                    text.append(random.nextInt(3) == 0 ? "(ca)" : "" + ".abcde".charAt(random.nextInt(6)));
                    x += often;
                }
            }
            return text.toString();
        }

        private boolean image() {
            return random.nextInt(3) == 0
                ? same("image()", real.image(), model.image())
                : same("restore()", real.restore(), model.restore());
        }

        private boolean sheets() {
            int sheet = near(0, 3);
            int lane = random.nextInt(4) != 0 && sheet >= 0 && sheet < 4 ? model.laneOf(sheet) : near(0, 3);
            int i = near(0, 12);
            int n = near(0, 12);
            switch (random.nextInt(12)) {
                case 0: return same("sheet(" + sheet + ", " + lane + ", " + n + ")", real.sheet(sheet, lane, n), model.sheet(sheet, lane, n));
                case 1: {
                    int items = near(0, 24);
                    int l = near(0, 3);
                    return same("sheet(" + sheet + ", " + l + ", " + items + ")", real.sheet(sheet, l, items), model.sheet(sheet, l, items));
                }
                case 2: return random.nextInt(4) != 0 || same("drop(" + sheet + ")", real.drop(sheet), model.drop(sheet));
                case 3: case 4: {
                    int y = near(0, model.now.high - 1);
                    return same("film(" + y + ", " + sheet + ", " + lane + ", " + i + ")", real.film(y, sheet, lane, i), model.film(y, sheet, lane, i));
                }
                case 5: case 6: {
                    int to = near(0, 3);
                    int j = near(0, 12);
                    return same("copy(" + sheet + ", " + i + ", " + to + ", " + j + ", " + n + ")",
                        real.copy(sheet, i, to, j, n), model.copy(sheet, i, to, j, n));
                }
                case 7: {
                    long v = random.nextBoolean() ? random.nextLong() : near(-200, 5000);
                    return same("item(" + sheet + ", " + lane + ", " + i + ", " + v + ")", real.item(sheet, lane, i, v), model.item(sheet, lane, i, v));
                }
                case 8: case 9: return pair(sheet, lane, i);
                default: {
                    int ink = near(0, 4);
                    int pairs = near(1, 6);
                    int from = near(0, 4);
                    return same("seen(" + ink + ", " + sheet + ", " + lane + ", " + from + ", " + pairs + ")",
                        real.seen(ink, sheet, lane, from, pairs), model.seen(ink, sheet, lane, from, pairs));
                }
            }
        }

        /** Writes a pair that may be seen, by a kind that an ink could be of, and looks at it. */
        private boolean pair(int sheet, int lane, int i) {
            int set = random.nextInt(32);
            int ink = random.nextInt(5);
            State other = new State(model.now);
            other.kinds[ink] = random.nextInt(4);
            long look = other.look(set);
            return same("item", real.item(sheet, lane, i, set), model.item(sheet, lane, i, set))
                && same("item", real.item(sheet, lane, i + 1, look), model.item(sheet, lane, i + 1, look))
                && same("seen(" + ink + ", " + sheet + ", " + lane + ", " + i + ", 1)",
                    real.seen(ink, sheet, lane, i, 1), model.seen(ink, sheet, lane, i, 1));
        }
    }

    private static final class State {
        final int[] kinds;
        final int[] tones;
        final List<Integer> order;
        final int[][] sets;
        final int wide;
        final int high;
        long draw;

        State() {
            this(new int[5], new int[] {0xff0, 0xf0f, 0x0ff, 0x888, 0x444}, List.of(0, 1, 2, 3, 4), new int[3][4], 1);
        }

        State(State other) {
            this(other.kinds, other.tones, other.order, other.sets, other.draw);
        }

        State(int[] kinds, int[] tones, List<Integer> order, int[][] sets, long draw) {
            this.kinds = kinds.clone();
            this.tones = tones.clone();
            this.order = List.copyOf(order);
            this.high = sets.length;
            this.wide = sets[0].length;
            this.sets = new int[high][];
            for (int y = 0; y < high; y++) {
                this.sets[y] = sets[y].clone();
            }
            this.draw = draw;
        }

        State with(List<Integer> newOrder) {
            return new State(kinds, tones, newOrder, sets, draw);
        }

        State with(int[][] newSets) {
            return new State(kinds, tones, order, newSets, draw);
        }

        int look(int set) {
            int[] numbers = {15, 15, 15};
            for (int ink : order) {
                if ((set & 1 << ink) == 0) {
                    continue;
                }
                for (int k = 0; k < 3; k++) {
                    int f = tones[ink] >> (8 - 4 * k) & 15;
                    int clear = numbers[k] * f / 15;
                    numbers[k] = new int[] {clear, f, (clear + f) / 2, f == 15 ? 15 : f + 1}[kinds[ink]];
                }
            }
            return numbers[0] * 256 + numbers[1] * 16 + numbers[2];
        }

        int dark(int set) {
            int look = look(set);
            return 45 - look / 256 - look / 16 % 16 - look % 16;
        }
    }

    private static final class Model {
        State now = new State();
        ArrayDeque<State> past = new ArrayDeque<>();
        State keptNow = null;
        ArrayDeque<State> keptPast = null;
        final StringBuilder tape = new StringBuilder();
        final Object[] sheets = new Object[4];

        private static boolean in(int v, int low, int high) {
            return low <= v && v <= high;
        }

        private void step(State next) {
            past.addLast(now);
            if (past.size() > 6) {
                past.removeFirst();
            }
            now = next;
        }

        private List<int[]> places() {
            List<int[]> all = new ArrayList<>();
            for (int y = 0; y < now.high; y++) {
                for (int x = 0; x < now.wide; x++) {
                    all.add(new int[] {x, y});
                }
            }
            return all;
        }

        private int at(int x, int y) {
            return in(x, 0, now.wide - 1) && in(y, 0, now.high - 1) ? now.sets[y][x] : 0;
        }

        private int inks() {
            int inks = 0;
            for (int[] p : places()) {
                inks |= at(p[0], p[1]);
            }
            return inks;
        }

        int ink(int ink, int what) {
            if (!in(ink, 0, 4) || !in(what, 0, 4)) {
                return -1;
            }
            long many = places().stream().filter(p -> (at(p[0], p[1]) >> ink) % 2 == 1).count();
            return new int[] {now.kinds[ink], now.tones[ink], now.order.indexOf(ink), now.dark(1 << ink), (int) many}[what];
        }

        int set(int set, int what) {
            if (!in(set, 0, 31) || !in(what, 0, 3)) {
                return -1;
            }
            int alike = 0;
            for (int other = 0; other < 32; other++) {
                alike += now.look(other) == now.look(set) ? 1 : 0;
            }
            long many = places().stream().filter(p -> at(p[0], p[1]) == set).count();
            return new int[] {now.look(set), now.dark(set), alike, (int) many}[what];
        }

        /** Lets the least number spread until nothing changes. */
        private int[][] labels() {
            int[][] label = new int[now.high][now.wide];
            for (int[] p : places()) {
                label[p[1]][p[0]] = p[1] * 100 + p[0];
            }
            boolean changed = true;
            while (changed) {
                changed = false;
                for (int[] p : places()) {
                    for (int[] q : places()) {
                        boolean together = beside(p, q) && at(p[0], p[1]) == at(q[0], q[1]);
                        if (together && label[q[1]][q[0]] < label[p[1]][p[0]]) {
                            label[p[1]][p[0]] = label[q[1]][q[0]];
                            changed = true;
                        }
                    }
                }
            }
            return label;
        }

        private static boolean beside(int[] p, int[] q) {
            return Math.abs(p[0] - q[0]) + Math.abs(p[1] - q[1]) == 1;
        }

        List<List<int[]>> areas() {
            int[][] label = labels();
            TreeSet<Integer> numbers = new TreeSet<>();
            places().forEach(p -> numbers.add(label[p[1]][p[0]]));
            List<List<int[]>> all = new ArrayList<>();
            for (int number : numbers) {
                all.add(places().stream().filter(p -> label[p[1]][p[0]] == number).toList());
            }
            return all;
        }

        private static boolean holds(List<int[]> area, int x, int y) {
            return area.stream().anyMatch(p -> p[0] == x && p[1] == y);
        }

        int place(int x, int y, int what) {
            if (!in(x, 0, now.wide - 1) || !in(y, 0, now.high - 1) || !in(what, 0, 2)) {
                return -1;
            }
            if (what < 2) {
                return what == 0 ? at(x, y) : now.look(at(x, y));
            }
            List<List<int[]>> areas = areas();
            for (int k = 0; k < areas.size(); k++) {
                if (holds(areas.get(k), x, y)) {
                    return k;
                }
            }
            throw new IllegalStateException();
        }

        int area(int area, int what) {
            List<List<int[]>> areas = areas();
            if (!in(area, 0, areas.size() - 1) || !in(what, 0, 5)) {
                return -1;
            }
            List<int[]> mine = areas.get(area);
            int neighbours = 0;
            int greater = 0;
            for (int k = 0; k < areas.size(); k++) {
                List<int[]> other = areas.get(k);
                if (k != area && other.stream().anyMatch(p -> mine.stream().anyMatch(q -> beside(p, q)))) {
                    neighbours++;
                }
                if (other.size() > mine.size() || other.size() == mine.size() && k < area) {
                    greater++;
                }
            }
            int[] first = mine.get(0);
            return new int[] {at(first[0], first[1]), mine.size(), neighbours, first[0], first[1], greater}[what];
        }

        int type(int letter) {
            if (!in(letter, 32, 126)) {
                return -1;
            }
            return tape.length() == 100 ? -3 : tape.append((char) letter).length();
        }

        int draw() {
            String text = tape.toString();
            tape.setLength(0);
            int fault = Text.fault(text);
            if (fault >= 0) {
                return -20 - fault;
            }
            now = now.with(Text.sets(text));
            past.clear();
            return now.wide * now.high;
        }

        int count(int what) {
            switch (what) {
                case 0: return now.wide;
                case 1: return now.high;
                case 2: return figures(now.order);
                case 3: return areas().size();
                case 4: return (int) places().stream().map(p -> now.look(at(p[0], p[1]))).distinct().count();
                case 5: return few();
                case 6: return worst();
                case 7: return worst() < 0 ? 0 : gaps(worst() / 100, worst() % 10 - 1, worst() % 100 / 10 - 1);
                case 8: return orders().size();
                case 9: return orders().get(0);
                case 10: {
                    List<Integer> inks = new ArrayList<>(List.of(0, 1, 2, 3, 4));
                    inks.sort((a, b) -> now.dark(1 << a) - now.dark(1 << b));
                    return figures(inks);
                }
                case 11: return inks();
                case 12: return past.size();
                default: return -1;
            }
        }

        private static int figures(List<Integer> order) {
            StringBuilder all = new StringBuilder();
            order.forEach(all::append);
            return Integer.parseInt(all.toString());
        }

        private int few() {
            Set<Integer> drawn = new HashSet<>();
            places().forEach(p -> drawn.add(now.look(at(p[0], p[1]))));
            for (int many = 0; many <= 5; many++) {
                for (int inks = 0; inks < 32; inks++) {
                    Set<Integer> can = new HashSet<>();
                    for (int set = 0; set < 32; set++) {
                        if ((set | inks) == inks) {
                            can.add(now.look(set));
                        }
                    }
                    if (Integer.bitCount(inks) == many && can.containsAll(drawn)) {
                        return inks;
                    }
                }
            }
            throw new IllegalStateException();
        }

        private int worst() {
            int best = 0;
            int code = -4;
            for (int k = 0; k < 45; k++) {
                int gaps = gaps(k / 9, k % 3 - 1, k / 3 % 3 - 1);
                if (gaps > best) {
                    best = gaps;
                    code = 100 * (k / 9) + 10 * (k / 3 % 3) + k % 3;
                }
            }
            return code;
        }

        private static List<Integer> parsed(int figures) {
            String all = String.format("%05d", figures);
            return all.chars().mapToObj(c -> c - '0').toList();
        }

        private static boolean isOrder(int figures) {
            return figures >= 0 && figures < 100000 && new TreeSet<>(parsed(figures)).equals(new TreeSet<>(List.of(0, 1, 2, 3, 4)));
        }

        private static final List<Integer> ALL_ORDERS = allOrders();

        private static List<Integer> allOrders() {
            List<Integer> all = new ArrayList<>();
            for (int figures = 0; figures < 100000; figures++) {
                if (isOrder(figures)) {
                    all.add(figures);
                }
            }
            return all;
        }

        private List<Integer> orders() {
            return ALL_ORDERS.stream().filter(figures -> {
                State other = now.with(parsed(figures));
                return places().stream().allMatch(p -> other.look(at(p[0], p[1])) == now.look(at(p[0], p[1])));
            }).toList();
        }

        int tell(int ink, int kind, int tone) {
            if (!in(ink, 0, 4) || !in(kind, 0, 3) || !in(tone, 0, 4095)) {
                return -1;
            }
            State next = new State(now);
            next.kinds[ink] = kind;
            next.tones[ink] = tone;
            if (Arrays.equals(next.kinds, now.kinds) && Arrays.equals(next.tones, now.tones)) {
                return -2;
            }
            step(next);
            return 1;
        }

        int order(int figures) {
            if (!isOrder(figures)) {
                return -1;
            }
            int was = figures(now.order);
            if (was == figures) {
                return -2;
            }
            step(now.with(parsed(figures)));
            return was;
        }

        int put(int x, int y, int set) {
            if (!in(x, 0, now.wide - 1) || !in(y, 0, now.high - 1) || !in(set, 0, 31)) {
                return -1;
            }
            int was = at(x, y);
            if (was == set) {
                return -2;
            }
            State next = new State(now);
            next.sets[y][x] = set;
            step(next);
            return was;
        }

        int fill(int area, int set) {
            List<List<int[]>> areas = areas();
            if (!in(area, 0, areas.size() - 1) || !in(set, 0, 31)) {
                return -1;
            }
            if (area(area, 0) == set) {
                return -2;
            }
            State next = new State(now);
            areas.get(area).forEach(p -> next.sets[p[1]][p[0]] = set);
            step(next);
            return areas.get(area).size();
        }

        int grow() {
            State next = new State(now);
            List<int[]> all = places();
            for (int a = 0; a < all.size(); a++) {
                for (int b = a + 1; b < all.size(); b++) {
                    int[] p = all.get(a);
                    int[] q = all.get(b);
                    int first = at(p[0], p[1]);
                    int second = at(q[0], q[1]);
                    if (!beside(p, q) || first == 0 || second == 0 || (first & second) != 0) {
                        continue;
                    }
                    if (now.dark(second) < now.dark(first)) {
                        next.sets[p[1]][p[0]] |= second;
                    } else {
                        next.sets[q[1]][q[0]] |= first;
                    }
                }
            }
            int changed = (int) all.stream().filter(p -> next.sets[p[1]][p[0]] != at(p[0], p[1])).count();
            if (changed == 0) {
                return -2;
            }
            step(next);
            return changed;
        }

        int size(int what, int v) {
            if (!in(what, 0, 1) || !in(v, 1, what == 0 ? 8 : 6)) {
                return -1;
            }
            int was = what == 0 ? now.wide : now.high;
            if (was == v) {
                return -2;
            }
            int[][] sets = new int[what == 1 ? v : now.high][what == 0 ? v : now.wide];
            for (int y = 0; y < sets.length; y++) {
                for (int x = 0; x < sets[y].length; x++) {
                    sets[y][x] = at(x, y);
                }
            }
            step(now.with(sets));
            return was;
        }

        int drift(int n) {
            if (!in(n, 1, 40)) {
                return -1;
            }
            for (int turn = 0; turn < n; turn++) {
                State next = new State(now);
                next.draw = BigInteger.valueOf(now.draw).multiply(BigInteger.valueOf(1103515245))
                    .add(BigInteger.valueOf(12345)).mod(BigInteger.TWO.pow(31)).longValueExact();
                int x = (int) (next.draw >> 16);
                next.sets[(x >> 3) % now.high][x % now.wide] = (x >> 6) & 31;
                step(next);
            }
            return areas().size();
        }

        int undo() {
            if (past.isEmpty()) {
                return -4;
            }
            now = past.removeLast();
            return past.size();
        }

        int seed(int v) {
            if (v < 0) {
                return -1;
            }
            int was = (int) now.draw;
            now = new State(now);
            now.draw = v;
            return was;
        }

        int aside(int ink, int dx, int dy, int x, int y) {
            if (!in(ink, 0, 4) || !in(dx, -1, 1) || !in(dy, -1, 1) || !in(x, 0, now.wide - 1) || !in(y, 0, now.high - 1)) {
                return -1;
            }
            return printed(ink, dx, dy)[y][x];
        }

        /** Prints plate by plate, by where each place of it comes to lie. */
        private int[][] printed(int aside, int dx, int dy) {
            int[][] paper = new int[now.high][now.wide];
            for (int ink = 0; ink < 5; ink++) {
                for (int[] p : places()) {
                    int x = p[0] + (ink == aside ? dx : 0);
                    int y = p[1] + (ink == aside ? dy : 0);
                    if ((at(p[0], p[1]) & 1 << ink) != 0 && in(x, 0, now.wide - 1) && in(y, 0, now.high - 1)) {
                        paper[y][x] |= 1 << ink;
                    }
                }
            }
            return paper;
        }

        int gaps(int ink, int dx, int dy) {
            if (!in(ink, 0, 4) || !in(dx, -1, 1) || !in(dy, -1, 1)) {
                return -1;
            }
            int[][] paper = printed(ink, dx, dy);
            return (int) places().stream().filter(p -> at(p[0], p[1]) != 0 && paper[p[1]][p[0]] == 0).count();
        }

        int fail(int c, int what) {
            if (!in(c, 0, 10) || !in(what, 0, 1)) {
                return -1;
            }
            BigInteger[] fraction = chance(0, 0, c);
            BigInteger common = fraction[0].gcd(fraction[1]);
            return fraction[what].divide(common).intValueExact();
        }

        /** The chance that no gap shows, if these inks below this one fail. */
        private BigInteger[] chance(int ink, int failed, int c) {
            if (ink == 5) {
                boolean gap = places().stream().anyMatch(p -> at(p[0], p[1]) != 0 && (at(p[0], p[1]) & ~failed) == 0);
                return new BigInteger[] {gap ? BigInteger.ZERO : BigInteger.ONE, BigInteger.ONE};
            }
            if ((inks() & 1 << ink) == 0) {
                return chance(ink + 1, failed, c);
            }
            BigInteger[] off = chance(ink + 1, failed | 1 << ink, c);
            BigInteger[] on = chance(ink + 1, failed, c);
            BigInteger above = off[0].multiply(on[1]).multiply(BigInteger.valueOf(c))
                .add(on[0].multiply(off[1]).multiply(BigInteger.valueOf(10 - c)));
            return new BigInteger[] {above, off[1].multiply(on[1]).multiply(BigInteger.TEN)};
        }

        int image() {
            keptNow = new State(now);
            keptPast = new ArrayDeque<>(past);
            return 1;
        }

        int restore() {
            if (keptNow == null) {
                return -4;
            }
            now = new State(keptNow);
            past = new ArrayDeque<>(keptPast);
            return 1;
        }

        int laneOf(int sheet) {
            Object row = sheets[sheet];
            return row instanceof byte[] ? 0 : row instanceof short[] ? 1 : row instanceof int[] ? 2 : 3;
        }

        private static int found(RuntimeException e) {
            return e instanceof NullPointerException ? -11
                : e instanceof ClassCastException ? -12
                : e instanceof IndexOutOfBoundsException ? -13 : -14;
        }

        private void write(int sheet, int lane, int i, long v) {
            switch (lane) {
                case 0: ((byte[]) sheets[sheet])[i] = (byte) v; break;
                case 1: ((short[]) sheets[sheet])[i] = (short) v; break;
                case 2: ((int[]) sheets[sheet])[i] = (int) v; break;
                default: ((long[]) sheets[sheet])[i] = v; break;
            }
        }

        private long read(int sheet, int lane, int i) {
            switch (lane) {
                case 0: return ((byte[]) sheets[sheet])[i];
                case 1: return ((short[]) sheets[sheet])[i];
                case 2: return ((int[]) sheets[sheet])[i];
                default: return ((long[]) sheets[sheet])[i];
            }
        }

        int seen(int ink, int sheet, int lane, int i, int n) {
            if (!in(ink, 0, 4) || !in(sheet, 0, 3) || !in(lane, 0, 3) || !in(n, 1, 6)) {
                return -1;
            }
            try {
                sheets[sheet].getClass();
                List<long[]> pairs = new ArrayList<>();
                for (int k = 0; k < n; k++) {
                    pairs.add(new long[] {read(sheet, lane, i + 2 * k), read(sheet, lane, i + 2 * k + 1)});
                }
                if (pairs.stream().anyMatch(pair -> pair[0] < 0 || pair[0] > 31)) {
                    return -2;
                }
                int kinds = 0;
                for (int kind = 0; kind < 4; kind++) {
                    State other = new State(now);
                    other.kinds[ink] = kind;
                    kinds += pairs.stream().allMatch(pair -> other.look((int) pair[0]) == pair[1]) ? 1 << kind : 0;
                }
                return kinds;
            } catch (NullPointerException | ClassCastException | IndexOutOfBoundsException e) {
                return found(e);
            }
        }

        int film(int y, int sheet, int lane, int i) {
            if (!in(y, 0, now.high - 1) || !in(sheet, 0, 3) || !in(lane, 0, 3)) {
                return -1;
            }
            try {
                sheets[sheet].getClass();
                read(sheet, lane, i);
                read(sheet, lane, i + now.wide - 1);
                for (int x = 0; x < now.wide; x++) {
                    write(sheet, lane, i + x, now.look(at(x, y)));
                }
                return now.wide;
            } catch (NullPointerException | ClassCastException | IndexOutOfBoundsException e) {
                return found(e);
            }
        }

        int sheet(int sheet, int lane, int n) {
            if (!in(sheet, 0, 3) || !in(lane, 0, 3) || n > 24) {
                return -1;
            }
            try {
                sheets[sheet] = lane == 0 ? new byte[n] : lane == 1 ? new short[n] : lane == 2 ? new int[n] : new long[n];
                return n;
            } catch (NegativeArraySizeException e) {
                return found(e);
            }
        }

        int drop(int sheet) {
            if (!in(sheet, 0, 3)) {
                return -1;
            }
            if (sheets[sheet] == null) {
                return -11;
            }
            int n = java.lang.reflect.Array.getLength(sheets[sheet]);
            sheets[sheet] = null;
            return n;
        }

        int item(int sheet, int lane, int i, long v) {
            if (!in(sheet, 0, 3) || !in(lane, 0, 3)) {
                return -1;
            }
            try {
                sheets[sheet].getClass();
                write(sheet, lane, i, v);
                return 1;
            } catch (NullPointerException | ClassCastException | IndexOutOfBoundsException e) {
                return found(e);
            }
        }

        @SuppressWarnings("SuspiciousSystemArraycopy")
        int copy(int from, int i, int to, int j, int n) {
            if (!in(from, 0, 3) || !in(to, 0, 3)) {
                return -1;
            }
            try {
                System.arraycopy(sheets[from], i, sheets[to], j, n);
                return n;
            } catch (ArrayStoreException e) {
                return -12;
            } catch (NullPointerException | IndexOutOfBoundsException e) {
                return found(e);
            }
        }
    }

    /** A letter can't stand where it stands if no text that begins so far is a drawing. */
    private static final class Text {
        /** Where the fault is, or -1. Every width is tried; what is left of them all counts. */
        static int fault(String text) {
            int farthest = -1;
            for (int wide = 1; wide <= 8; wide++) {
                int reached = reached(text, wide);
                if (reached < 0) {
                    return -1;
                }
                farthest = Math.max(farthest, reached);
            }
            return farthest;
        }

        /** The place at which a drawing of this width ends to be possible, or -1. */
        private static int reached(String text, int wide) {
            int lines = 1;
            int places = 0;
            String run = "";
            for (int k = 0; k < text.length(); k++) {
                char c = text.charAt(k);
                if (c == ' ') {
                    continue;
                }
                if (c == '/' && run.isEmpty()) {
                    if (places != wide || lines == 6) {
                        return k;
                    }
                    lines++;
                    places = 0;
                    continue;
                }
                run += c;
                boolean begins = run.matches("[1-8]?(\\([a-e]*)?") || run.matches("[1-8]?(\\([a-e]+\\)|[.a-e])");
                if (!begins || places + often(run) > wide) {
                    return k;
                }
                if (run.matches("[1-8]?(\\([a-e]+\\)|[.a-e])")) {
                    places += often(run);
                    run = "";
                }
            }
            return lines >= 1 && places == wide && run.isEmpty() ? -1 : text.length();
        }

        private static int often(String run) {
            return Character.isDigit(run.charAt(0)) ? run.charAt(0) - '0' : 1;
        }

        static int[][] sets(String text) {
            String[] lines = text.replace(" ", "").split("/");
            int[][] sets = new int[lines.length][];
            for (int y = 0; y < lines.length; y++) {
                List<Integer> line = new ArrayList<>();
                java.util.regex.Matcher run = java.util.regex.Pattern.compile("([1-8]?)(\\([a-e]+\\)|[.a-e])").matcher(lines[y]);
                while (run.find()) {
                    int set = run.group(2).chars().filter(c -> c >= 'a' && c <= 'e').map(c -> 1 << (c - 'a')).reduce(0, (a, b) -> a | b);
                    for (int k = run.group(1).isEmpty() ? 1 : Integer.parseInt(run.group(1)); k > 0; k--) {
                        line.add(set);
                    }
                }
                sets[y] = line.stream().mapToInt(Integer::intValue).toArray();
            }
            return sets;
        }
    }
}
